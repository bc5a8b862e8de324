import java.util.Arrays;

/** Each sentence of the document's "Terms" that names a boundary case, by itself. */
public final class TermsEdgesTest {
    private static final Class<IllegalArgumentException> ARGUMENT = IllegalArgumentException.class;
    private static final Class<IllegalStateException> STATE = IllegalStateException.class;
    private static final Class<IndexOutOfBoundsException> INDEX = IndexOutOfBoundsException.class;

    /** Seeds whose first R is 0, and 2^31 - 1. */
    private static final long LEAST_R = -552988042828624686L;
    private static final long GREATEST_R = -7847782917531415342L;

    private static final Check CHECK = new Check();

    private TermsEdgesTest() {
    }

    public static void main(String[] args) {
        CHECK.each(TermsEdgesTest::use, TermsEdgesTest::pulses, TermsEdgesTest::sifting, TermsEdgesTest::theString,
            TermsEdgesTest::theLength, TermsEdgesTest::fewestDraws, TermsEdgesTest::wrappingDraws,
            TermsEdgesTest::whatIsLeftOfS, TermsEdgesTest::drawnAgain, TermsEdgesTest::drawnBits,
            TermsEdgesTest::shuffles, TermsEdgesTest::samples, TermsEdgesTest::sampleBehindSample,
            TermsEdgesTest::seedOfAPass, TermsEdgesTest::blocks, TermsEdgesTest::parityOfARange,
            TermsEdgesTest::askingForBlocks, TermsEdgesTest::nextPass, TermsEdgesTest::fewestPlacesFirst,
            TermsEdgesTest::leastPassFirst, TermsEdgesTest::firstOneFirst, TermsEdgesTest::rangeOfOnePlace,
            TermsEdgesTest::halves, TermsEdgesTest::allPlaces, TermsEdgesTest::lastBlocksOfLaterPasses,
            TermsEdgesTest::knownHalves, TermsEdgesTest::lettersUnderWay, TermsEdgesTest::rowMovesUp,
            TermsEdgesTest::numbersOfQuestions, TermsEdgesTest::anyOtherAnswer, TermsEdgesTest::product,
            TermsEdgesTest::tags, TermsEdgesTest::keys);
        CHECK.end();
    }

    /** 10 calls, 2 for each of 213 questions, 2 more for each of the first 37, which is lost once; two are left. */
    private static void use() {
        CHECK.about("An object is used for at most 512 calls after it has been made");
        int[] words0 = {0x5A3C96E1, 0x0F1E2D3C, 0x76543210, 0x13579BDF};
        int[] noise = {0x9E3779B9, 0x3C6EF372, 0xDAA66D2B, 0x78DDE6E4};
        int[] words1 = new int[4];
        for (int w = 0; w < 4; w++) {
            words1[w] = words0[w] ^ noise[w];
        }
        KeyDistiller x = Runs.siftedLong(128, words0, words1);
        x.start(4, 11);
        for (int question = 1; question <= 213; question++) {
            if (question <= 37) {
                x.letter(0, 1);
                x.tick();
            }
            x.letter(0, 0);
            x.letter(0, 0);
        }
        CHECK.due("call 511", 4, x::pass);
        CHECK.due("call 512", 213, x::disclosed);
        KeyDistiller y = Runs.started(16, 0, 0, 4, 1);
        for (int call = 5; call < 512; call++) {
            y.tick();
        }
        CHECK.due("call 512 is a tick", 16, y::tick);
    }

    private static void pulses() {
        CHECK.about("PULSES are numbered 0 .. 127.");
        for (int pulse : new int[] {0, 127}) {
            KeyDistiller x = new KeyDistiller();
            CHECK.due("station 0 records " + pulse, 1, () -> x.record(0, pulse, 1, 1, 1, 0));
            CHECK.due("station 1 records " + pulse, 1, () -> x.record(1, pulse, 1, 1, 1, 1));
            CHECK.due("it is kept", 1, x::sift);
            CHECK.due("its values", Runs.string(x, 0) + Runs.string(x, 1), "11");
        }
        CHECK.throwsDue("pulse -1", ARGUMENT, () -> new KeyDistiller().record(0, -1, 1, 0, 0, 0));
        CHECK.throwsDue("pulse 128", ARGUMENT, () -> new KeyDistiller().record(0, 128, 1, 0, 0, 0));
    }

    private static void sifting() {
        CHECK.about("SIFTING keeps the pulses that both recorded, that station 1 saw, and whose bases are the same");
        for (int which = 0; which < 64; which++) {
            boolean isIn0 = (which & 1) != 0;
            boolean isIn1 = (which & 2) != 0;
            int basis0 = which >> 2 & 1;
            int basis1 = which >> 3 & 1;
            int seen0 = which >> 4 & 1;
            int seen1 = which >> 5 & 1;
            for (int pulse : new int[] {0, 77, 127}) {
                KeyDistiller x = new KeyDistiller();
                if (isIn0) {
                    x.record(0, pulse, 1, basis0, 1, seen0);
                }
                if (isIn1) {
                    x.record(1, pulse, 1, basis1, 1, seen1);
                }
                int due = isIn0 && isIn1 && seen1 == 1 && basis0 == basis1 ? 1 : 0;
                CHECK.due("pulse " + pulse + ", case " + Integer.toBinaryString(which), due, x::sift);
            }
        }
    }

    private static void theString() {
        CHECK.about("a station's STRING are its values of these, in the order of their numbers");
        KeyDistiller x = new KeyDistiller();
        int[] pulses = {127, 64, 63, 1, 0};
        for (int i = 0; i < 5; i++) {
            x.record(0, pulses[i], 1, 0, i < 2 ? 1 : 0, 0);
            x.record(1, pulses[4 - i], 1, 0, i < 2 ? 1 : 0, 1);
        }
        x.sift();
        CHECK.due("recorded downwards", Runs.string(x, 0), "00011");
        CHECK.due("recorded upwards", Runs.string(x, 1), "11000");
    }

    private static void theLength() {
        CHECK.about("the LENGTH is how many");
        for (int n : new int[] {0, 1, 127, 128}) {
            CHECK.due(n + " pulses", n, () -> Runs.zeros(n).length());
        }
        KeyDistiller unlike = new KeyDistiller();
        for (int from = 0; from < 128; from += 32) {
            unlike.record(0, from, 32, 0, 0, 0);
            unlike.record(1, from, 32, -1, 0, -1);
        }
        CHECK.due("all 128 recorded and none alike", 0, unlike::sift);
    }

    /** Item after item of a shuffle of a few places, seen by samples, for no dialogue is about so few. */
    private static String sampledOrder(int n, long seed) {
        StringBuilder text = new StringBuilder();
        for (int item = 0; item < n; item++) {
            for (int position = 0; position < n; position++) {
                if (isInSample(n, seed, item + 1, position) && !isInSample(n, seed, item, position)) {
                    text.append(position);
                }
            }
        }
        return text.toString();
    }

    private static boolean isInSample(int n, long seed, int some, int position) {
        return Runs.sifted(n, 0, 1 << position).sample(seed, some) == 1;
    }

    private static void fewestDraws() {
        CHECK.about("for a draw of 0 .. k - 1 (k from 2 on)");
        for (long seed : new long[] {0, 1, -1, Long.MAX_VALUE, Long.MIN_VALUE, GREATEST_R}) {
            CHECK.due("nothing is drawn for 0 places", 0, () -> Runs.zeros(0).sample(seed, 0));
            CHECK.due("nothing is drawn for 1 place", sampledOrder(1, seed), "0");
        }
        CHECK.due("0 of 0 .. 1", sampledOrder(2, LEAST_R), "10");
        CHECK.due("1 of 0 .. 1", sampledOrder(2, GREATEST_R), "01");
    }

    private static void wrappingDraws() {
        CHECK.about("S becomes S * 6364136223846793005 + 1442695040888963407 (in 64 bits, wrapping)");
        // With 0 and 1 it stays below 2^63, with 2 below 2^64, with 3 it is above.
        long[] seeds = {0, 1, 2, 3, -1, -2, Long.MAX_VALUE, Long.MIN_VALUE};
        String[] orders = {"0 2 3 1 4 5", "1 5 4 0 3 2", "3 1 5 0 2 4", "2 0 1 4 3 5", "5 0 2 1 3 4", "3 0 1 5 4 2",
            "3 2 5 1 4 0", "0 4 2 1 5 3"};
        for (int i = 0; i < seeds.length; i++) {
            CHECK.due("seed " + seeds[i], Runs.order(Runs.started(6, 0, 0, 4, seeds[i]), 0), orders[i]);
        }
    }

    private static void whatIsLeftOfS() {
        CHECK.about("R is what is left of S when 33 bits are shifted out (0 .. 2^31 - 1)");
        CHECK.due("0 of 0 .. 3", Runs.order(Runs.started(4, 0, 0, 4, LEAST_R), 0), "3 2 1 0");
        CHECK.due("2^31 - 1 of 0 .. 3", Runs.order(Runs.started(4, 0, 0, 4, GREATEST_R), 0), "1 0 2 3");
        CHECK.due("0 of 0 .. 127", 0, () -> itemOf(128, LEAST_R, 127));
        CHECK.due("2^31 - 1 of 0 .. 127", 127, () -> itemOf(128, GREATEST_R, 127));
        CHECK.due("the draw behind it", 120, () -> itemOf(128, GREATEST_R, 126));
    }

    private static int itemOf(int n, long seed, int i) {
        KeyDistiller x = Runs.zeros(n);
        x.start(4, seed);
        return x.item(0, i);
    }

    private static void drawnAgain() {
        CHECK.about("if R is not below the greatest multiple of k that is at most 2^31, it is drawn again");
        CHECK.due("3: one below", sampledOrder(3, -3990628593227445038L), "012");
        CHECK.due("3: the multiple", sampledOrder(3, 3304166281475345618L), "210");
        CHECK.due("3: one above", sampledOrder(3, GREATEST_R), "102");
        CHECK.due("3: twice", sampledOrder(3, -2308173349731701059L), "021");
        CHECK.due("5: one below", Runs.order(Runs.started(5, 0, 0, 4, -7941409756980400926L), 0), "3 1 0 2 4");
        CHECK.due("5: the multiple", Runs.order(Runs.started(5, 0, 0, 4, -646614882277610270L), 0), "2 3 4 1 0");
        CHECK.due("5: two above", Runs.order(Runs.started(5, 0, 0, 4, GREATEST_R), 0), "1 4 3 2 0");
        CHECK.due("5: twice", Runs.order(Runs.started(5, 0, 0, 4, 6059476636862667161L), 0), "2 4 0 1 3");
        CHECK.due("100: twice", 79, () -> itemOf(100, -4859104991659068372L, 99));
        CHECK.due("127: one below", 126, () -> itemOf(127, 7580834379684465874L, 126));
        CHECK.due("127: the multiple", 45, () -> itemOf(127, -3571114819322295086L, 126));
        CHECK.due("127: seven above", 120, () -> itemOf(127, GREATEST_R, 126));
        CHECK.due("127: twice", 49, () -> itemOf(127, -2311422447042368432L, 126));
    }

    /** A key of 12 bits of a string whose only 1 is at a position: its bit j is b(position + 11 - j). */
    private static KeyDistiller keyOfOne(int position, long seed) {
        int values = 1 << position;
        KeyDistiller x = Runs.talked(32, values, values, 32, 9);
        x.shorten(seed, 1, 0);
        return x;
    }

    private static void drawnBits() {
        CHECK.about("A bit is drawn as the highest bit of S, S being changed first.");
        long[] seeds = {0, 1, 2, 3, -1, -2, Long.MAX_VALUE, Long.MIN_VALUE};
        String[] bits = {"001001000010", "011011101011", "111000010111", "001010101111", "111011110110", "001011011100",
            "000100001001", "110110111101"};
        for (int i = 0; i < seeds.length; i++) {
            String key = Runs.key(keyOfOne(0, seeds[i]), 0, 12);
            CHECK.due("seed " + seeds[i], new StringBuilder(key).reverse().toString(), bits[i]);
        }
    }

    private static void shuffles() {
        CHECK.about("for j from n - 1 down to 1, 0 .. j is drawn, and what that place has and what place j has are "
            + "exchanged");
        CHECK.due("of 0 places", sampledOrder(0, 5), "");
        CHECK.due("of 1 place", sampledOrder(1, 5), "0");
        CHECK.due("of 2 places", sampledOrder(2, 2), "10");
        CHECK.due("of 2 places, each with itself", sampledOrder(2, 3), "01");
        CHECK.due("of 3 places", sampledOrder(3, 2), "201");
        CHECK.due("of 4 places", sampledOrder(4, 2), "1230");
        boolean[] had = new boolean[128];
        KeyDistiller x = Runs.zeros(128);
        x.start(4, 77);
        for (int i = 0; i < 128; i++) {
            had[x.item(0, i)] = true;
        }
        boolean[] all = new boolean[128];
        Arrays.fill(all, true);
        CHECK.holds("of 128 places has each position", Arrays.equals(had, all));
    }

    private static void samples() {
        CHECK.about("A SAMPLE of n gives up the positions that are items 0 .. n - 1 of a shuffle of the length: they "
            + "leave both strings; the others stay in their order.");
        // The order is 5 1 2 3 7 6 4 0.
        String[] left0 = {"01001011", "0100111", "000111", "00111", "0111", "011", "01", "0", ""};
        String[] left1 = {"00001111", "0000111", "000111", "00111", "0111", "011", "01", "0", ""};
        int[] differed = {0, 1, 2, 2, 2, 2, 2, 2, 2};
        for (int n = 0; n <= 8; n++) {
            int some = n;
            KeyDistiller x = Runs.sifted(8, 0b11010010, 0b11110000);
            CHECK.due("of " + n, differed[n], () -> x.sample(5, some));
            CHECK.due("what is left at 0 of " + n, Runs.string(x, 0), left0[n]);
            CHECK.due("what is left at 1 of " + n, Runs.string(x, 1), left1[n]);
        }
        KeyDistiller all = Runs.zeros(128);
        CHECK.due("of all 128", 0, () -> all.sample(5, 128));
        CHECK.due("of none of none", 0, () -> all.sample(5, 0));
        CHECK.due("none is left", 0, all::length);
    }

    private static void sampleBehindSample() {
        CHECK.about("A SAMPLE of n gives up the positions that are items 0 .. n - 1 of a shuffle of the length");
        KeyDistiller x = Runs.sifted(16, 0x5A3C, 0x9A27);
        int[][] takes = {{5, 3, 1}, {6, 1, 0}, {-7, 4, 3}, {8, 0, 0}, {9, 5, 2}, {10, 2, 0}, {11, 1, 0}};
        String[] left = {"0111000101010 1100000101001", "011000101010 100000101001", "01001010 10001010",
            "01001010 10001010", "001 001", "0 0", " "};
        for (int i = 0; i < takes.length; i++) {
            int[] take = takes[i];
            CHECK.due("sample " + i, take[2], () -> x.sample(take[0], take[1]));
            CHECK.due("left behind " + i, Runs.string(x, 0) + " " + Runs.string(x, 1), left[i]);
        }
    }

    private static void seedOfAPass() {
        CHECK.about("pass p has its own order of all positions, a shuffle of the length with the seed + p");
        String[] around = {"5 4 0 1 6 2 3", "0 4 1 5 6 3 2", "2 3 5 6 4 0 1", "0 5 6 2 3 1 4", "2 1 5 0 6 4 3",
            "0 1 3 4 6 5 2", "4 1 3 0 6 2 5"};
        for (int first = 0; first < 4; first++) {
            long seed = Long.MAX_VALUE - 3 + first;
            KeyDistiller x = Runs.started(7, 0, 0, 4, seed);
            for (int pass = 0; pass < 4; pass++) {
                CHECK.due("seed " + seed + ", pass " + pass, Runs.order(x, pass), around[first + pass]);
            }
        }
        KeyDistiller x = Runs.started(7, 0, 0, 4, -1);
        CHECK.due("seed -1, pass 0", Runs.order(x, 0), "3 1 0 4 2 6 5");
        CHECK.due("seed -1, pass 1", Runs.order(x, 1), "3 1 4 5 6 0 2");
        CHECK.due("seed -1, pass 3", Runs.order(x, 3), "3 4 2 5 1 0 6");
    }

    /** Without a difference just the blocks are asked for. */
    private static void blocksDue(int n, int k, String blocks) {
        KeyDistiller x = Runs.zeros(n);
        x.start(k, 3);
        Runs.talk(x);
        CHECK.due(n + " places, K " + k, Runs.questions(x), blocks);
    }

    private static void blocks() {
        CHECK.about("It is parted into BLOCKS of K * 2^p places, from place 0 on (the last one may have fewer).");
        blocksDue(4, 4, "0:0-4 1:0-4 2:0-4 3:0-4");
        blocksDue(5, 4, "0:0-4 0:4-5 1:0-5 2:0-5 3:0-5");
        blocksDue(5, 5, "0:0-5 1:0-5 2:0-5 3:0-5");
        blocksDue(7, 4, "0:0-4 0:4-7 1:0-7 2:0-7 3:0-7");
        blocksDue(8, 4, "0:0-4 0:4-8 1:0-8 2:0-8 3:0-8");
        blocksDue(9, 4, "0:0-4 0:4-8 0:8-9 1:0-8 1:8-9 2:0-9 3:0-9");
        blocksDue(16, 4, "0:0-4 0:4-8 0:8-12 0:12-16 1:0-8 1:8-16 2:0-16 3:0-16");
        blocksDue(17, 4, "0:0-4 0:4-8 0:8-12 0:12-16 0:16-17 1:0-8 1:8-16 1:16-17 2:0-16 2:16-17 3:0-17");
        blocksDue(33, 8, "0:0-8 0:8-16 0:16-24 0:24-32 0:32-33 1:0-16 1:16-32 1:32-33 2:0-32 2:32-33 3:0-33");
        blocksDue(128, 16, "0:0-16 0:16-32 0:32-48 0:48-64 0:64-80 0:80-96 0:96-112 0:112-128 1:0-32 1:32-64 1:64-96 "
            + "1:96-128 2:0-64 2:64-128 3:0-128");
        blocksDue(128, 15, "0:0-15 0:15-30 0:30-45 0:45-60 0:60-75 0:75-90 0:90-105 0:105-120 0:120-128 1:0-30 1:30-60 "
            + "1:60-90 1:90-120 1:120-128 2:0-60 2:60-120 2:120-128 3:0-120 3:120-128");
        blocksDue(128, 64, "0:0-64 0:64-128 1:0-128 2:0-128 3:0-128");
        blocksDue(128, 127, "0:0-127 0:127-128 1:0-128 2:0-128 3:0-128");
        blocksDue(128, 128, "0:0-128 1:0-128 2:0-128 3:0-128");
        KeyDistiller most = Runs.zeros(128);
        most.start(4, 3);
        Runs.talk(most);
        CHECK.due("128 places, K 4: 32, 16, 8 and 4 blocks", 60, most::disclosed);
        CHECK.due("the last of pass 0", 256 * 124 + 128, () -> most.answered(31));
        CHECK.due("the last of pass 3", 65536 * 3 + 256 * 96 + 128, () -> most.answered(59));
    }

    private static void parityOfARange() {
        CHECK.about("A RANGE of a pass is places from .. to (to is not in it)");
        // Just the place that is told has a 1: it is in the block 4 .. 8 from place 4 on, and up to place 7.
        int[] dueOfPlace = {0, 0, 0, 0, 1, 1, 1, 1, 0};
        KeyDistiller order = Runs.started(9, 0, 0, 4, 21);
        for (int place = 0; place < 9; place++) {
            int values = 1 << order.item(0, place);
            KeyDistiller x = Runs.started(9, values, values, 4, 21);
            x.letter(0, 0);
            x.letter(0, 0);
            x.letter(0, 0);
            CHECK.due("a 1 at place " + place, Runs.letter(x, 0), "1 2 " + dueOfPlace[place] + " -1 -1");
        }
        KeyDistiller ones = Runs.allPulses(new int[] {-1, -1, -1, 0x7FFFFFFF});
        ones.start(128, 5);
        ones.letter(0, 0);
        CHECK.due("127 bits of 128", Runs.letter(ones, 0), "1 1 1 -1 -1");
    }

    private static void askingForBlocks() {
        CHECK.about("1. the parities of the blocks of the pass that it is in (at first 0), from block 0 on, as far as "
            + "it does not know them.");
        KeyDistiller x = Runs.started(9, 0, 0b1, 4, 21);
        String[] due = {"0 1 0 0 4", "0 2 0 4 8", "0 3 0 8 9"};
        for (int block = 0; block < 3; block++) {
            CHECK.due("just one letter", -1, () -> x.told(1, 0));
            CHECK.due("block " + block, Runs.letter(x, 0), due[block]);
            CHECK.due("nothing is mended before all are known", Runs.string(x, 1), "100000000");
            x.letter(0, 0);
            x.letter(0, 0);
        }
    }

    private static void nextPass() {
        CHECK.about("If none is odd, the pass is over: the next one, or, behind pass 3, all is DONE.");
        KeyDistiller x = Runs.started(4, 0, 0, 4, 1);
        for (int pass = 0; pass < 4; pass++) {
            CHECK.due("in pass " + pass, pass, x::pass);
            CHECK.due("asks in pass " + pass, Runs.letter(x, 0), "0 " + (pass + 1) + " " + pass + " 0 4");
            CHECK.due("not done in pass " + pass, 0, () -> x.done() ? 1 : 0);
            CHECK.due("the question comes", 1, () -> x.letter(0, 0));
            CHECK.due("still in pass " + pass, pass, x::pass);
            CHECK.due("the answer comes", pass == 3 ? 0 : 1, () -> x.letter(0, 0));
        }
        CHECK.due("behind pass 3", 4, x::pass);
        CHECK.due("done", 1, () -> x.done() ? 1 : 0);
        KeyDistiller unmended = Runs.talked(4, 0b0000, 0b1001, 4, 1);
        CHECK.due("done with two differences in each block", 1, () -> unmended.done() ? 1 : 0);
        CHECK.due("that nobody sees", Runs.string(unmended, 1), "1001");
    }

    private static void fewestPlacesFirst() {
        CHECK.about("Otherwise it takes the odd block with the fewest places");
        // Odd at once: 0:12-16, 1:16-19 and 2:0-16. That of pass 1 is the last one and has three places.
        KeyDistiller x = Runs.talked(19, 0x72863, 0x3A07A, 4, 1915);
        CHECK.due("a last block of a later pass", Runs.questions(x),
            "0:0-4 0:4-8 0:8-12 0:12-16 0:16-19 0:4-6 0:4-5 0:8-10 0:10-11 1:0-8 1:8-16 1:16-19 1:0-4 1:0-2 1:2-3 "
            + "0:16-18 0:16-17 2:0-16 2:16-19 2:16-18 2:16-17 1:16-18 3:0-19");
        CHECK.due("mended", Runs.string(x, 1), "1100011000010100111");
        // Odd at once: the last block of one place, and one before it of four.
        KeyDistiller y = Runs.started(13, 0x1ACE, 0x1ACE ^ (1 << 2 | 1 << 10), 4, 0);
        for (int i = 0; i < 8; i++) {
            y.letter(0, 0);
        }
        CHECK.due("the last block is mended", 0, () -> y.bit(0, 10) ^ y.bit(1, 10));
        CHECK.due("the other one is not yet", 1, () -> y.bit(0, 2) ^ y.bit(1, 2));
    }

    private static void leastPassFirst() {
        CHECK.about("(of these that of the least pass, then the first one)");
        // Odd at once: 0:4-8 and 1:24-28, which is the last one and has four places too.
        KeyDistiller x = Runs.talked(28, 0xA085CC6, 0xA1840EC, 4, 289);
        CHECK.due("four places in two passes", Runs.questions(x),
            "0:0-4 0:4-8 0:8-12 0:12-16 0:16-20 0:20-24 0:24-28 0:0-2 0:2-3 0:12-14 0:12-13 0:24-26 0:24-25 1:0-8 "
            + "1:8-16 1:16-24 1:24-28 1:8-12 1:8-10 1:8-9 0:8-10 0:10-11 2:0-16 2:16-28 2:16-22 2:16-19 2:16-18 "
            + "2:16-17 0:4-6 0:4-5 3:0-28");
        CHECK.due("mended", Runs.string(x, 1), "0110001100111010000100000101");
    }

    private static void firstOneFirst() {
        CHECK.about("(of these that of the least pass, then the first one)");
        KeyDistiller x = Runs.talked(12, 0x3B, 0x21, 4, 24);
        CHECK.due("three odd blocks of a pass", Runs.questions(x),
            "0:0-4 0:4-8 0:8-12 0:0-2 0:0-1 0:4-6 0:4-5 0:8-10 0:8-9 1:0-8 1:8-12 2:0-12 3:0-12");
        CHECK.due("mended", Runs.string(x, 1), "110111000000");
    }

    private static void rangeOfOnePlace() {
        CHECK.about("a range of one place: its bit at station 1 is flipped, and this begins anew with 2.");
        KeyDistiller order = Runs.started(5, 0, 0, 4, 8);
        int last = order.item(0, 4);
        for (int value = 0; value < 2; value++) {
            int mine = value << last;
            KeyDistiller x = Runs.started(5, mine, 1 << last ^ mine, 4, 8);
            x.letter(0, 0);
            x.letter(0, 0);
            x.letter(0, 0);
            CHECK.due("not before the answer comes", 1 - value, () -> x.bit(1, last));
            x.letter(0, 0);
            CHECK.due("from " + (1 - value) + " to " + value, value, () -> x.bit(1, last));
            CHECK.due("no question is asked for it", Runs.letter(x, 0), "0 3 1 0 5");
            CHECK.due("station 0 has its own still", value, () -> x.bit(0, last));
        }
    }

    /** One block of n places with a difference at one of them: the questions between that block and pass 1. */
    private static String searchFor(int n, int place) {
        KeyDistiller order = Runs.started(n, 0, 0, n, 6);
        KeyDistiller x = Runs.talked(n, 0, 1 << order.item(0, place), n, 6);
        String all = Runs.questions(x);
        String first = "0:0-" + n + " ";
        boolean isMended = !Runs.string(x, 1).contains("1");
        return isMended && all.startsWith(first) ? all.substring(first.length(), all.indexOf("1:0-")).trim() : all;
    }

    private static void halves() {
        CHECK.about("A range of more: the first half has its places divided by 2, rounded up; if it does not know the "
            + "parity of the first half, it asks for that; then it goes on with the first half, if that is odd, "
            + "otherwise with the rest.");
        String[] of4 = {"0:0-2 0:0-1", "0:0-2 0:0-1", "0:0-2 0:2-3", "0:0-2 0:2-3"};
        String[] of5 = {"0:0-3 0:0-2 0:0-1", "0:0-3 0:0-2 0:0-1", "0:0-3 0:0-2", "0:0-3 0:3-4", "0:0-3 0:3-4"};
        String[] of7 = {"0:0-4 0:0-2 0:0-1", "0:0-4 0:0-2 0:0-1", "0:0-4 0:0-2 0:2-3", "0:0-4 0:0-2 0:2-3",
            "0:0-4 0:4-6 0:4-5", "0:0-4 0:4-6 0:4-5", "0:0-4 0:4-6"};
        for (String[] due : new String[][] {of4, of5, of7}) {
            for (int place = 0; place < due.length; place++) {
                CHECK.due(due.length + " places, place " + place, searchFor(due.length, place), due[place]);
            }
        }
        CHECK.due("31 places, the first", searchFor(31, 0), "0:0-16 0:0-8 0:0-4 0:0-2 0:0-1");
        CHECK.due("31 places, the last", searchFor(31, 30), "0:0-16 0:16-24 0:24-28 0:28-30");
        CHECK.due("last blocks of 2 and 3 places", Runs.questions(Runs.talked(10, 0, 1 << lastItemOf(10), 4, 6)),
            "0:0-4 0:4-8 0:8-10 0:8-9 1:0-8 1:8-10 2:0-10 3:0-10");
        CHECK.due("a last block of 3 places", Runs.questions(Runs.talked(11, 0, 1 << lastItemOf(11), 4, 6)),
            "0:0-4 0:4-8 0:8-11 0:8-10 1:0-8 1:8-11 2:0-11 3:0-11");
    }

    private static int lastItemOf(int n) {
        return Runs.started(n, 0, 0, 4, 6).item(0, n - 1);
    }

    /** All 128 pulses, with differences at these positions: what is asked, and that all are mended. */
    private static void mendingDue(int k, long seed, int[] positions, String questions) {
        int[] words = new int[4];
        for (int position : positions) {
            words[position / 32] ^= 1 << position % 32;
        }
        KeyDistiller x = Runs.siftedLong(128, new int[4], words);
        x.start(k, seed);
        Runs.talk(x);
        CHECK.due("K " + k + ", " + Arrays.toString(positions), Runs.questions(x), questions);
        CHECK.due("K " + k + ", " + Arrays.toString(positions) + " mended", Runs.string(x, 1), "0".repeat(128));
    }

    private static void allPlaces() {
        CHECK.about("It is parted into BLOCKS of K * 2^p places, from place 0 on (the last one may have fewer).");
        // In pass 0 position 75 is at place 0, 100 at place 126, 48 at place 127.
        mendingDue(128, 5, new int[] {75},
            "0:0-128 0:0-64 0:0-32 0:0-16 0:0-8 0:0-4 0:0-2 0:0-1 1:0-128 2:0-128 3:0-128");
        mendingDue(128, 5, new int[] {48}, "0:0-128 0:0-64 0:64-96 0:96-112 0:112-120 0:120-124 0:124-126 0:126-127 "
            + "1:0-128 2:0-128 3:0-128");
        mendingDue(127, 5, new int[] {100}, "0:0-127 0:127-128 0:0-64 0:64-96 0:96-112 0:112-120 0:120-124 0:124-126 "
            + "1:0-128 2:0-128 3:0-128");
        mendingDue(127, 5, new int[] {48}, "0:0-127 0:127-128 1:0-128 2:0-128 3:0-128");
        mendingDue(124, 5, new int[] {48}, "0:0-124 0:124-128 0:124-126 0:126-127 1:0-128 2:0-128 3:0-128");
    }

    private static void lastBlocksOfLaterPasses() {
        CHECK.about("It is parted into BLOCKS of K * 2^p places, from place 0 on (the last one may have fewer).");
        mendingDue(63, 172, new int[] {34, 47}, "0:0-63 0:63-126 0:126-128 1:0-126 1:126-128 1:126-127 0:0-32 0:32-48 "
            + "0:48-56 0:48-52 0:52-54 0:52-53 2:0-128 3:0-128");
        mendingDue(62, 37, new int[] {28, 110}, "0:0-62 0:62-124 0:124-128 1:0-124 1:124-128 1:124-126 1:126-127 "
            + "0:0-31 0:31-47 0:31-39 0:39-43 0:43-45 0:43-44 2:0-128 3:0-128");
        mendingDue(31, 63, new int[] {19, 104}, "0:0-31 0:31-62 0:62-93 0:93-124 0:124-128 1:0-62 1:62-124 1:124-128 "
            + "2:0-124 2:124-128 2:124-126 2:124-125 0:31-47 0:31-39 0:31-35 0:31-33 0:31-32 3:0-128");
    }

    private static void knownHalves() {
        CHECK.about("if it does not know the parity of the first half, it asks for that");
        // 0:4-8 is searched twice: the second time 0:4-6 is known, and just 0:4-5 is asked for.
        KeyDistiller x = Runs.talked(17, 0x14C91, 0x7CD0, 4, 4);
        CHECK.due("a half is asked for once", Runs.questions(x),
            "0:0-4 0:4-8 0:8-12 0:12-16 0:16-17 0:4-6 0:6-7 0:8-10 0:8-9 0:12-14 0:14-15 1:0-8 1:8-16 1:16-17 1:0-4 "
            + "1:0-2 1:0-1 0:4-5 2:0-16 2:16-17 3:0-17");
        CHECK.due("mended", Runs.string(x, 1), "10001001001100101");
    }

    /** 16 letters: 15 questions number 1, and its answer behind them. */
    private static KeyDistiller fullRow() {
        KeyDistiller x = Runs.started(16, 0xB38F, 0xB3AF, 4, 3);
        for (int i = 0; i < 15; i++) {
            x.tick();
        }
        x.letter(0, 0);
        return x;
    }

    private static void lettersUnderWay() {
        CHECK.about("LETTERS under way are a row of at most 16; a letter that is sent is the last one, or lost, if "
            + "there are 16.");
        KeyDistiller x = Runs.started(16, 0xB38F, 0xB3AF, 4, 3);
        CHECK.due("none is left", 0, () -> x.letter(0, 1));
        CHECK.due("the first", 1, x::tick);
        for (int n = 2; n <= 16; n++) {
            CHECK.due("letter " + n, n, x::tick);
        }
        CHECK.due("the 17th is lost", 16, x::tick);
        CHECK.due("there is no 17th", -1, () -> x.told(16, 0));
        CHECK.due("an answer takes the place of its question", 16, () -> x.letter(0, 0));
        CHECK.due("as the last one", Runs.letter(x, 15), "1 1 0 -1 -1");
        CHECK.due("the one before", Runs.letter(x, 14), "0 1 0 0 4");
        KeyDistiller y = fullRow();
        CHECK.due("a question takes the place of the answer", 16, () -> y.letter(15, 0));
        CHECK.due("as the last one too", Runs.letter(y, 15), "0 2 0 4 8");
        CHECK.due("again it is lost", 16, y::tick);
        y.letter(15, 1);
        CHECK.due("nothing is left of it", Runs.letter(y, 15), "-1 -1 -1 -1 -1");
        CHECK.due("but it can be sent again", 16, y::tick);
        CHECK.due("with its number", Runs.letter(y, 15), "0 2 0 4 8");
    }

    private static void rowMovesUp() {
        CHECK.about("LETTERS under way are a row of at most 16");
        // The 1s are all in the second block of four: its parity is 1, that of the first is 0.
        KeyDistiller order = Runs.started(8, 0, 0, 4, 2);
        int values = 1 << order.item(0, 5);
        KeyDistiller x = Runs.started(8, values, values, 4, 2);
        x.letter(0, 0);
        x.letter(0, 2);
        x.letter(0, 2);
        x.letter(1, 0);
        x.letter(2, 2);
        x.letter(2, 0);
        CHECK.due("the row", row(x, 4), "1 1 0 -1 -1, 1 1 0 -1 -1, 0 2 0 4 8, 1 2 1 -1 -1");
        x.letter(1, 1);
        CHECK.due("one in the midst is lost", row(x, 4), "1 1 0 -1 -1, 0 2 0 4 8, 1 2 1 -1 -1, -1 -1 -1 -1 -1");
        x.letter(0, 1);
        CHECK.due("the first one is lost", row(x, 3), "0 2 0 4 8, 1 2 1 -1 -1, -1 -1 -1 -1 -1");
        x.letter(1, 2);
        x.letter(0, 0);
        CHECK.due("the first one comes", row(x, 4), "1 2 1 -1 -1, 1 2 1 -1 -1, 1 2 1 -1 -1, -1 -1 -1 -1 -1");
    }

    private static String row(KeyDistiller x, int count) {
        StringBuilder text = new StringBuilder();
        for (int k = 0; k < count; k++) {
            text.append(k == 0 ? "" : ", ").append(Runs.letter(x, k));
        }
        return text.toString();
    }

    private static void numbersOfQuestions() {
        CHECK.about("A QUESTION has a number (1, 2, .. as they were asked), a pass and a range.");
        KeyDistiller x = Runs.started(16, 0xB38F, 0xB3AF, 4, 3);
        for (int number = 1; number <= 10; number++) {
            x.tick();
            CHECK.due("asked", number, () -> x.told(0, 1));
            CHECK.due("asked again", number, () -> x.told(1, 1));
            x.letter(1, 1);
            x.letter(0, 0);
            CHECK.due("answered", number, () -> x.told(0, 1));
            x.letter(0, 0);
        }
        CHECK.due("done behind 10", 1, () -> x.done() ? 1 : 0);
    }

    private static void anyOtherAnswer() {
        CHECK.about("When an answer with the number of the newest question comes and that is not known yet, it is "
            + "known, and station 1 goes on; any other answer does nothing.");
        KeyDistiller x = Runs.started(16, 0xB38F, 0xB3AF, 4, 3);
        x.letter(0, 0);
        x.letter(0, 2);
        x.letter(0, 0);
        CHECK.due("the double of an older answer", Runs.letter(x, 0), "1 1 0 -1 -1");
        CHECK.due("the newest question", Runs.letter(x, 1), "0 2 0 4 8");
        CHECK.due("the older answer comes", 1, () -> x.letter(0, 0));
        CHECK.due("and did nothing", Runs.letter(x, 0), "0 2 0 4 8");
        KeyDistiller last = Runs.started(4, 0, 0, 4, 1);
        for (int i = 0; i < 7; i++) {
            last.letter(0, 0);
        }
        last.letter(0, 2);
        CHECK.due("the answer to the last question comes", 1, () -> last.letter(0, 0));
        CHECK.due("all is done", 4, last::pass);
        CHECK.due("its double comes when it is known", 0, () -> last.letter(0, 0));
        CHECK.due("and did nothing, pass", 4, last::pass);
        CHECK.due("and did nothing, disclosed", 4, last::disclosed);
    }

    private static void product() {
        CHECK.about("that of polynomials over the field of two elements (bit k being the coefficient of x to the k) "
            + "modulo x^16 + x^5 + x^3 + x + 1");
        // The tag of n bits that are all 0 is the product of r and n.
        int[][] due = {{1, 1, 1}, {1, 65535, 65535}, {2, 32767, 65534}, {2, 32768, 43}, {2, 65534, 65495},
            {2, 65535, 65493}, {3, 32768, 32811}, {3, 65535, 42}, {128, 1, 128}, {128, 32767, 63961},
            {128, 32768, 2752}, {128, 65535, 62233}};
        for (int[] d : due) {
            CHECK.due(d[0] + " and " + d[1], d[2], () -> Runs.zeros(d[0]).tag(1, d[1]));
        }
        CHECK.due("0 and 65535", 0, () -> Runs.zeros(0).tag(1, 65535));
        // With 16 bits the tag is the product of r and the exclusive-or of 16 and that of r and these.
        CHECK.due("65535 and 65535", 11573, () -> Runs.sifted(16, 65535, 0).tag(0, 65535));
        CHECK.due("32768 and 65535", 39218, () -> Runs.sifted(16, 65535, 0).tag(0, 32768));
        CHECK.due("65535 and 32768", 4462, () -> Runs.sifted(16, 32768, 0).tag(0, 65535));
        CHECK.due("1 and 32768", 32784, () -> Runs.sifted(16, 32768, 0).tag(0, 1));
    }

    private static void tags() {
        CHECK.about("for each 16 bits of its string (bit i of them the lowest first; the last ones filled with 0), T "
            + "becomes the product of r and the exclusive-or of T and these; then it becomes the product of r and the "
            + "exclusive-or of T and the length");
        int[] ones = {-1, -1, -1, -1};
        int[][] due = {{15, 1, 32752}, {15, 2, 65481}, {16, 1, 65519}, {16, 2, 65441}, {17, 1, 65519}, {17, 2, 65295},
            {31, 2, 192}, {32, 2, 232}, {33, 2, 278}, {127, 2, 8736}, {127, 65535, 35765}, {128, 2, 9096},
            {128, 65535, 27648}};
        for (int[] d : due) {
            CHECK.due(d[0] + " ones, " + d[1], d[2], () -> Runs.siftedLong(d[0], ones, ones).tag(0, d[1]));
        }
        CHECK.due("no bits", 0, () -> Runs.zeros(0).tag(0, 2));
        CHECK.due("the first of 16", 36, () -> Runs.sifted(16, 1, 0).tag(0, 2));
        CHECK.due("the last of 16", 118, () -> Runs.sifted(16, 1 << 15, 0).tag(0, 2));
        CHECK.due("the first behind 16", 38, () -> Runs.sifted(17, 1 << 16, 0).tag(0, 2));
        int[] last = {0, 0, 0, 1 << 31};
        CHECK.due("the last of 128", 342, () -> Runs.siftedLong(128, last, last).tag(0, 2));
        CHECK.due("a bit given up is not in it", 2, () -> {
            KeyDistiller x = Runs.sifted(2, 0b10, 0b10);
            // The order is 1 0.
            x.sample(2, 1);
            return x.tag(0, 2);
        });
    }

    private static void keys() {
        CHECK.about("for b(0), b(1), .. b(length + n - 2), bits drawn one behind the other; bit j of a station's key "
            + "is the exclusive-or of all its string's bits i for which b(i + n - 1 - j) is 1");
        // The draws 0 .. 42 are 0010100010011111001010000111010000101101111.
        CHECK.due("from b(n - 1) down to b(0)", Runs.key(keyOfOne(0, 2024), 0, 12), "100100010100");
        CHECK.due("from b(length + n - 2) down", Runs.key(keyOfOne(31, 2024), 1, 12), "111101101000");
        for (int position : new int[] {0, 2, 4, 31}) {
            KeyDistiller x = keyOfOne(position, 0);
            x.shorten(2024, 1, 11);
            CHECK.due("one bit, position " + position, position == 0 || position == 31 ? 0 : 1, () -> x.key(0, 0));
            CHECK.throwsDue("just one bit, position " + position, INDEX, () -> x.key(0, 1));
        }
        KeyDistiller zeros = Runs.zeros(128);
        zeros.start(128, 1);
        Runs.talk(zeros);
        CHECK.due("the longest key", 108, () -> zeros.shorten(-1, 1, 0));
        CHECK.due("of zeros", Runs.key(zeros, 1, 108), "0".repeat(108));
        CHECK.throwsDue("has no more bits", INDEX, () -> zeros.key(1, 108));
        CHECK.throwsDue("sifting is over", STATE, zeros::sift);
    }
}
