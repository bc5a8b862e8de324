/** Each sentence of the promises that names a boundary case, by itself. Where not told otherwise, seeds are any. */
public final class PromisesEdgesTest {
    private static final Class<IllegalArgumentException> ARGUMENT = IllegalArgumentException.class;
    private static final Class<IllegalStateException> STATE = IllegalStateException.class;
    private static final Class<IndexOutOfBoundsException> INDEX = IndexOutOfBoundsException.class;
    private static final Class<UnsupportedOperationException> UNSUPPORTED = UnsupportedOperationException.class;

    private static final int LEAST = Integer.MIN_VALUE;
    private static final int GREATEST = Integer.MAX_VALUE;
    private static final int VALUES = 0x5A3C96E1;
    /** Two differences that a single block does not show; the tags with 32 are alike, those with 33 are not. */
    private static final int TWO_OFF = VALUES ^ (1 | 1 << 21);

    private static final Check CHECK = new Check();

    private PromisesEdgesTest() {
    }

    public static void main(String[] args) {
        CHECK.each(PromisesEdgesTest::promise1, PromisesEdgesTest::promise2Arguments, PromisesEdgesTest::promise2Bits,
            PromisesEdgesTest::promise2States, PromisesEdgesTest::promise3, PromisesEdgesTest::promise4,
            PromisesEdgesTest::promise5, PromisesEdgesTest::promise6, PromisesEdgesTest::promise7,
            PromisesEdgesTest::promise8Arguments, PromisesEdgesTest::promise8Row, PromisesEdgesTest::promise9,
            PromisesEdgesTest::promise10, PromisesEdgesTest::promise11, PromisesEdgesTest::promise12,
            PromisesEdgesTest::promise13, PromisesEdgesTest::promise14, PromisesEdgesTest::promise15,
            PromisesEdgesTest::promise16, PromisesEdgesTest::promise17, PromisesEdgesTest::promise18,
            PromisesEdgesTest::promise18Bits, PromisesEdgesTest::promise19, PromisesEdgesTest::promise19Latest);
        CHECK.end();
    }

    private static void promise1() {
        CHECK.about("1: Nothing is recorded.");
        for (int station = 0; station < 2; station++) {
            int recorder = station;
            for (int from = 0; from < 128; from++) {
                int pulse = from;
                CHECK.due("pulse " + pulse, 1, () -> new KeyDistiller().record(recorder, pulse, 1, 0, 0, 0));
            }
        }
        CHECK.due("nothing is kept", 0, () -> new KeyDistiller().sift());
        KeyDistiller other = Runs.started(8, 0, 0, 4, 1);
        CHECK.due("another object has letters", 0, () -> other.told(0, 0));
        CHECK.due("this one has none", -1, () -> new KeyDistiller().told(0, 0));
    }

    private static void promise2Arguments() {
        CHECK.about("2: IllegalArgumentException when there is no such station");
        CHECK.bounds("station", 0, 1, ARGUMENT, s -> new KeyDistiller().record(s, 0, 1, 0, 0, 0));
        CHECK.about("2: n is not 1 .. 32");
        CHECK.bounds("n from 0", 1, 32, ARGUMENT, n -> new KeyDistiller().record(0, 0, n, 0, 0, 0));
        CHECK.bounds("n from 50", 1, 32, ARGUMENT, n -> new KeyDistiller().record(1, 50, n, 0, 0, 0));
        CHECK.about("2: or there are no such pulses");
        CHECK.bounds("one from", 0, 127, ARGUMENT, from -> new KeyDistiller().record(0, from, 1, 0, 0, 0));
        CHECK.bounds("two from", 0, 126, ARGUMENT, from -> new KeyDistiller().record(1, from, 2, 0, 0, 0));
        CHECK.bounds("31 from", 0, 97, ARGUMENT, from -> new KeyDistiller().record(0, from, 31, 0, 0, 0));
        CHECK.bounds("32 from", 0, 96, ARGUMENT, from -> new KeyDistiller().record(1, from, 32, 0, 0, 0));
        CHECK.bounds("n from 127", 1, 1, ARGUMENT, n -> new KeyDistiller().record(0, 127, n, 0, 0, 0));
        CHECK.bounds("n from 97", 1, 31, ARGUMENT, n -> new KeyDistiller().record(0, 97, n, 0, 0, 0));
        CHECK.throwsDue("the last of them is pulse 0", ARGUMENT, () -> new KeyDistiller().record(0, -31, 32, 0, 0, 0));
        CHECK.throwsDue("all behind the last", ARGUMENT, () -> new KeyDistiller().record(0, 128, 32, 0, 0, 0));
    }

    private static void promise2Bits() {
        CHECK.about("2: by the bits of three numbers, bit k for the k-th of them");
        for (int n : new int[] {1, 31, 32}) {
            int ends = 1 | 1 << (n - 1);
            KeyDistiller x = new KeyDistiller();
            x.record(0, 96, n, ends, ends, 0);
            x.record(1, 96, n, ends, 0, -1);
            CHECK.due("bases alike, n " + n, n, x::sift);
            CHECK.due("values, n " + n, 1, () -> x.bit(0, 0));
            CHECK.due("values, the last of " + n, 1, () -> x.bit(0, n - 1));
            CHECK.due("values, n " + n, n == 1 ? 1 : 2, () -> Runs.string(x, 0).chars().filter(c -> c == '1').count());
            KeyDistiller y = new KeyDistiller();
            y.record(0, 0, n, 0, -1, 0);
            y.record(1, 0, n, 0, -1, ends);
            CHECK.due("seen, n " + n, n == 1 ? 1 : 2, y::sift);
            KeyDistiller z = new KeyDistiller();
            z.record(0, 0, n, 0, 0, 0);
            z.record(1, 0, n, ends, 0, -1);
            CHECK.due("bases that differ at the ends, n " + n, n == 1 ? 0 : n - 2, z::sift);
        }
        KeyDistiller x = new KeyDistiller();
        x.record(0, 0, 31, 0, 0x80000000, 0);
        x.record(1, 0, 31, 0x80000000, 0, 0x80000000);
        x.record(0, 31, 1, 0, 1, 0);
        x.record(1, 31, 1, 0, 1, 1);
        CHECK.due("bits from n on do nothing", 1, x::sift);
        CHECK.due("how many it has recorded, n 1 and 32", "1 33", twoRecords(1, 32));
        CHECK.due("how many it has recorded, n 32 and 32", "32 64", twoRecords(32, 32));
        KeyDistiller all = new KeyDistiller();
        for (int from = 0; from < 128; from += 32) {
            int f = from;
            CHECK.due("all 128 pulses", from + 32, () -> all.record(1, f, 32, 0, 0, 0));
        }
    }

    private static String twoRecords(int n, int more) {
        KeyDistiller x = new KeyDistiller();
        return x.record(1, 0, n, 0, 0, 0) + " " + x.record(1, n, more, 0, 0, 0);
    }

    private static KeyDistiller tenToThirteen() {
        KeyDistiller x = new KeyDistiller();
        x.record(0, 10, 4, 0, 0, 0);
        return x;
    }

    private static void promise2States() {
        CHECK.about("2: IllegalStateException when it has recorded one of them");
        CHECK.due("just before", 14, () -> tenToThirteen().record(0, 0, 10, 0, 0, 0));
        CHECK.throwsDue("the last one was recorded", STATE, () -> tenToThirteen().record(0, 0, 11, 0, 0, 0));
        CHECK.due("just behind", 36, () -> tenToThirteen().record(0, 14, 32, 0, 0, 0));
        CHECK.throwsDue("the first one was recorded", STATE, () -> tenToThirteen().record(0, 13, 32, 0, 0, 0));
        CHECK.throwsDue("one in the midst", STATE, () -> tenToThirteen().record(0, 11, 1, 0, 0, 0));
        CHECK.throwsDue("all of them", STATE, () -> tenToThirteen().record(0, 10, 4, 0, 0, 0));
        CHECK.throwsDue("more than all of them", STATE, () -> tenToThirteen().record(0, 0, 32, 0, 0, 0));
        CHECK.due("the other station has none", 32, () -> tenToThirteen().record(1, 0, 32, 0, 0, 0));
        KeyDistiller all = new KeyDistiller();
        for (int from = 0; from < 128; from += 32) {
            all.record(1, from, 32, 0, 0, 0);
        }
        CHECK.throwsDue("all 128 are recorded, the first", STATE, () -> all.record(1, 0, 1, 0, 0, 0));
        CHECK.throwsDue("all 128 are recorded, the last", STATE, () -> all.record(1, 127, 1, 0, 0, 0));
        CHECK.due("none by the other", 1, () -> all.record(0, 127, 1, 0, 0, 0));
        CHECK.about("2: or sift() was called");
        KeyDistiller empty = Runs.zeros(0);
        CHECK.throwsDue("though nothing is recorded", STATE, () -> empty.record(0, 0, 1, 0, 0, 0));
        CHECK.throwsDue("of station 1 too", STATE, () -> empty.record(1, 127, 1, 0, 0, 0));
        KeyDistiller some = Runs.sifted(8, 0, 0);
        CHECK.throwsDue("pulses that are not recorded", STATE, () -> some.record(0, 8, 1, 0, 0, 0));
        CHECK.throwsDue("pulses that are recorded", STATE, () -> some.record(0, 7, 1, 0, 0, 0));
    }

    private static void promise3() {
        CHECK.about("3: Sifts: the length.");
        CHECK.due("nothing recorded", 0, () -> new KeyDistiller().sift());
        CHECK.due("just one", 1, () -> Runs.recorded(1, 0, 0).sift());
        CHECK.due("just 32", 32, () -> Runs.recorded(32, 0, 0).sift());
        CHECK.due("all 128", 128, () -> {
            KeyDistiller x = new KeyDistiller();
            for (int from = 0; from < 128; from += 32) {
                x.record(0, from, 32, -1, 0, 0);
                x.record(1, from, 32, -1, 0, -1);
            }
            return x.sift();
        });
        KeyDistiller fewer = new KeyDistiller();
        fewer.record(0, 0, 10, 0, 0, 0);
        fewer.record(1, 2, 12, 1 << 7, 0, ~1);
        CHECK.due("2 .. 9 by both, 2 not seen, 9 not alike", 6, fewer::sift);
        CHECK.about("3: IllegalStateException when it was called before.");
        for (KeyDistiller x : new KeyDistiller[] {Runs.zeros(0), Runs.zeros(1), Runs.zeros(128),
            Runs.started(8, 0, 0, 4, 1), Runs.talked(8, 0, 0, 4, 1)}) {
            int length = x.length();
            CHECK.throwsDue("the second time, length " + length, STATE, x::sift);
            CHECK.throwsDue("the third time, length " + length, STATE, x::sift);
            CHECK.due("the length stays", length, x::length);
        }
    }

    private static void promise4() {
        CHECK.about("4: NONE before sifting.");
        CHECK.due("new", -1, () -> new KeyDistiller().length());
        CHECK.due("recorded", -1, () -> Runs.recorded(32, 0, 0).length());
        CHECK.about("4: The length of the strings");
        CHECK.due("0, not NONE", 0, () -> Runs.zeros(0).length());
        CHECK.due("1", 1, () -> Runs.zeros(1).length());
        CHECK.due("128", 128, () -> Runs.zeros(128).length());
        KeyDistiller x = Runs.zeros(128);
        x.sample(1, 127);
        CHECK.due("127 given up", 1, x::length);
        x.sample(1, 1);
        CHECK.due("all given up", 0, x::length);
    }

    private static void promise5() {
        CHECK.about("5: IllegalArgumentException when n is not 0 .. the length.");
        for (int length : new int[] {0, 1, 8, 127, 128}) {
            CHECK.bounds("length " + length + ", n", 0, length, ARGUMENT, n -> Runs.zeros(length).sample(1, n));
        }
        CHECK.bounds("the length behind a sample, n", 0, 5, ARGUMENT, n -> {
            KeyDistiller x = Runs.zeros(8);
            x.sample(1, 3);
            return x.sample(1, n);
        });
        CHECK.about("5: IllegalStateException before sifting");
        CHECK.throwsDue("new", STATE, () -> new KeyDistiller().sample(1, 0));
        CHECK.throwsDue("recorded", STATE, () -> Runs.recorded(8, 0, 0).sample(1, 0));
        CHECK.about("5: or behind the start");
        CHECK.throwsDue("started", STATE, () -> Runs.started(8, 0, 0, 4, 1).sample(1, 0));
        CHECK.throwsDue("done", STATE, () -> Runs.talked(8, 0, 0, 4, 1).sample(1, 0));
        CHECK.about("5: Takes a sample: in how many of its positions the strings differed.");
        CHECK.due("in none", 0, () -> Runs.sifted(32, VALUES, VALUES).sample(1, 32));
        CHECK.due("in all", 32, () -> Runs.sifted(32, VALUES, ~VALUES).sample(1, 32));
        CHECK.due("in none of none", 0, () -> Runs.sifted(32, VALUES, ~VALUES).sample(1, 0));
        KeyDistiller again = Runs.sifted(32, VALUES, ~VALUES);
        CHECK.due("in all of the first ones", 10, () -> again.sample(1, 10));
        CHECK.due("in all of the next ones alone", 5, () -> again.sample(2, 5));
        CHECK.due("in all 128", 128, () -> Runs.siftedLong(128, new int[4], new int[] {-1, -1, -1, -1}).sample(1, 128));
    }

    private static void promise6() {
        KeyDistiller x = Runs.siftedLong(128, new int[4], new int[] {-1, -1, -1, -1});
        CHECK.about("6: How many positions were given up, all samples together (what 0), and in how many of them the "
            + "strings differed (1).");
        for (int n : new int[] {0, 1, 63, 64, 0}) {
            int before = x.sampled(0);
            x.sample(9, n);
            CHECK.due("given up", before + n, () -> x.sampled(0));
            CHECK.due("differed", before + n, () -> x.sampled(1));
        }
        CHECK.due("all 128 given up", 128, () -> x.sampled(0));
        // The order of 8 begins with 5 and 1, which differ, and 2 3 7, which do not.
        KeyDistiller few = Runs.sifted(8, 0b11010010, 0b11110000);
        few.sample(5, 5);
        CHECK.due("of 8 given up", 5, () -> few.sampled(0));
        CHECK.due("of these differed", 2, () -> few.sampled(1));
        for (KeyDistiller none : new KeyDistiller[] {new KeyDistiller(), Runs.zeros(0), Runs.started(4, 0, 0, 4, 1)}) {
            CHECK.due("none given up", 0, () -> none.sampled(0));
            CHECK.due("none differed", 0, () -> none.sampled(1));
        }
        CHECK.about("6: NONE for any other what.");
        for (int what : new int[] {-1, 2, LEAST, GREATEST}) {
            CHECK.due("what " + what, -1, () -> x.sampled(what));
            CHECK.due("new, what " + what, -1, () -> new KeyDistiller().sampled(what));
        }
    }

    private static void promise7() {
        CHECK.about("7: IllegalArgumentException when k is not 4 .. the length.");
        for (int length : new int[] {4, 5, 16, 127, 128}) {
            CHECK.bounds("length " + length + ", k", 4, length, ARGUMENT, k -> Runs.zeros(length).start(k, 1));
        }
        for (int length = 0; length < 4; length++) {
            for (int k : new int[] {-1, 0, 1, 2, 3, 4, 5, LEAST, GREATEST}) {
                KeyDistiller x = Runs.zeros(length);
                CHECK.throwsDue("length " + length + ", k " + k, ARGUMENT, () -> x.start(k, 1));
            }
        }
        CHECK.bounds("the length behind a sample, k", 4, 5, ARGUMENT, k -> {
            KeyDistiller x = Runs.zeros(8);
            x.sample(1, 3);
            return x.start(k, 1);
        });
        CHECK.about("7: Begins the dialogue: how many letters are under way.");
        CHECK.due("the shortest", 1, () -> Runs.zeros(4).start(4, Long.MIN_VALUE));
        CHECK.due("the longest", 1, () -> Runs.zeros(128).start(128, Long.MAX_VALUE));
        CHECK.about("7: IllegalStateException before sifting");
        CHECK.throwsDue("new", STATE, () -> new KeyDistiller().start(4, 1));
        CHECK.throwsDue("recorded", STATE, () -> Runs.recorded(8, 0, 0).start(4, 1));
        CHECK.about("7: or when it has begun");
        CHECK.throwsDue("begun", STATE, () -> Runs.started(8, 0, 0, 4, 1).start(4, 1));
        CHECK.throwsDue("done", STATE, () -> Runs.talked(8, 0, 0, 4, 1).start(4, 1));
    }

    /** So many letters are under way, all of them question 1. */
    private static KeyDistiller withLetters(int count) {
        KeyDistiller x = Runs.started(16, 0xB38F, 0xB3AF, 4, 3);
        if (count == 0) {
            x.letter(0, 1);
        }
        for (int i = 1; i < count; i++) {
            x.tick();
        }
        return x;
    }

    private static void promise8Arguments() {
        CHECK.about("8: IllegalArgumentException when action is not 0 .. 2");
        for (int count : new int[] {1, 2, 15}) {
            CHECK.bounds(count + " letters, action", 0, 2, ARGUMENT, a -> withLetters(count).letter(0, a));
        }
        CHECK.about("8: IndexOutOfBoundsException when there is no such letter");
        for (int action = 0; action < 3; action++) {
            int a = action;
            for (int count : new int[] {1, 2, 15}) {
                CHECK.bounds(count + " letters, letter", 0, count - 1, INDEX, k -> withLetters(count).letter(k, a));
            }
            CHECK.throwsDue("none under way, action " + a, INDEX, () -> withLetters(0).letter(0, a));
            CHECK.throwsDue("before the start, action " + a, INDEX, () -> Runs.zeros(8).letter(0, a));
            CHECK.throwsDue("before sifting, action " + a, INDEX, () -> new KeyDistiller().letter(0, a));
            CHECK.throwsDue("when done, action " + a, INDEX, () -> Runs.talked(8, 0, 0, 4, 1).letter(0, a));
        }
        for (int action = 0; action < 2; action++) {
            int a = action;
            CHECK.bounds("16 letters, letter", 0, 15, INDEX, k -> withLetters(16).letter(k, a));
        }
    }

    private static void promise8Row() {
        CHECK.about("8: IllegalStateException when it would be doubled and there are 16.");
        CHECK.due("15 are 16 then", 16, () -> withLetters(15).letter(14, 2));
        CHECK.throwsDue("the first of 16", STATE, () -> withLetters(16).letter(0, 2));
        CHECK.throwsDue("the last of 16", STATE, () -> withLetters(16).letter(15, 2));
        CHECK.due("one of 16 comes", 16, () -> withLetters(16).letter(15, 0));
        CHECK.due("one of 16 is lost", 15, () -> withLetters(16).letter(15, 1));
        CHECK.about("8: Letter k under way, from 0, comes (action 0: it is out of the row first), is lost (1), or is "
            + "doubled (2: one more like it is the last one then): how many there are then.");
        CHECK.due("the only one is lost", 0, () -> withLetters(1).letter(0, 1));
        CHECK.due("the only one is doubled", 2, () -> withLetters(1).letter(0, 2));
        for (int k : new int[] {0, 7, 15}) {
            KeyDistiller x = withLetters(16);
            x.letter(3, 0);
            x.letter(k, 1);
            int answer = k == 15 ? -1 : 14;
            CHECK.due(k + " is lost, the answer is in its place", answer, () -> placeOfAnswer(x));
        }
        KeyDistiller y = withLetters(3);
        y.letter(0, 0);
        y.letter(2, 2);
        y.letter(0, 2);
        CHECK.due("the row behind two doublings", Runs.letter(y, 2) + ", " + Runs.letter(y, 3) + ", "
            + Runs.letter(y, 4), "1 1 0 -1 -1, 1 1 0 -1 -1, 0 1 0 0 4");
    }

    private static int placeOfAnswer(KeyDistiller x) {
        for (int k = 0; k < 16; k++) {
            if (x.told(k, 0) == 1) {
                return k;
            }
        }
        return -1;
    }

    private static void promise9() {
        CHECK.about("9: NONE when there is none such.");
        KeyDistiller full = withLetters(16);
        for (int k : new int[] {-1, 16, LEAST, GREATEST}) {
            for (int what = 0; what < 5; what++) {
                int w = what;
                CHECK.due("letter " + k + " of 16, what " + w, -1, () -> full.told(k, w));
                CHECK.due("letter " + k + ", new, what " + w, -1, () -> new KeyDistiller().told(k, w));
            }
        }
        CHECK.due("letter 0 of none", -1, () -> withLetters(0).told(0, 0));
        CHECK.due("letter 1 of 1", -1, () -> withLetters(1).told(1, 0));
        CHECK.due("letter 0 before the start", -1, () -> Runs.zeros(8).told(0, 0));
        for (int what : new int[] {-1, 5, LEAST, GREATEST}) {
            CHECK.due("a question, what " + what, -1, () -> full.told(0, what));
        }
        full.letter(0, 0);
        for (int what : new int[] {-1, 3, 4, 5, LEAST, GREATEST}) {
            CHECK.due("an answer, what " + what, -1, () -> full.told(15, what));
        }
        CHECK.about("9: Of letter k: what = 0: 0 a question, 1 an answer; 1 its number; of a question 2 the pass, 3 "
            + "and 4 from and to; of an answer 2 the parity.");
        CHECK.due("the first of 16", Runs.letter(full, 0), "0 1 0 0 4");
        CHECK.due("the last of 16", Runs.letter(full, 15), "1 1 0 -1 -1");
        KeyDistiller far = Runs.allPulses(new int[] {0, 0, 0, 1});
        far.start(127, 1);
        far.letter(0, 0);
        far.letter(0, 0);
        CHECK.due("the last place", Runs.letter(far, 0), "0 2 0 127 128");
        for (int i = 0; i < 6; i++) {
            far.letter(0, 0);
        }
        CHECK.due("the last pass", Runs.letter(far, 0), "0 5 3 0 128");
        far.letter(0, 0);
        CHECK.due("a parity of 1", Runs.letter(far, 0), "1 5 1 -1 -1");
    }

    private static void promise10() {
        CHECK.about("10: IllegalStateException before the start.");
        CHECK.throwsDue("new", STATE, () -> new KeyDistiller().tick());
        CHECK.throwsDue("recorded", STATE, () -> Runs.recorded(8, 0, 0).tick());
        CHECK.throwsDue("sifted", STATE, () -> Runs.zeros(8).tick());
        CHECK.throwsDue("too few to start", STATE, () -> Runs.zeros(0).tick());
        CHECK.about("10: Station 1 sends its newest question again, if it is not known (otherwise nothing): how many "
            + "letters are under way.");
        CHECK.due("none under way", 1, () -> withLetters(0).tick());
        CHECK.due("15 under way", 16, () -> withLetters(15).tick());
        CHECK.due("16 under way", 16, () -> withLetters(16).tick());
        KeyDistiller answered = withLetters(1);
        answered.letter(0, 0);
        CHECK.due("an answer under way is not known", 2, answered::tick);
        CHECK.due("the question again", Runs.letter(answered, 1), "0 1 0 0 4");
        KeyDistiller last = Runs.started(4, 0, 0, 4, 1);
        for (int i = 0; i < 7; i++) {
            last.letter(0, 0);
        }
        CHECK.due("the last answer is under way", 2, last::tick);
        CHECK.due("the last question again", Runs.letter(last, 1), "0 4 3 0 4");
        CHECK.due("the last answer comes", 1, () -> last.letter(0, 0));
        CHECK.due("all is known", 1, last::tick);
        last.letter(0, 1);
        CHECK.due("all is known and none is under way", 0, last::tick);
    }

    private static void promise11() {
        CHECK.about("11: Whether the dialogue is done.");
        KeyDistiller[] undone = {new KeyDistiller(), Runs.recorded(8, 0, 0), Runs.zeros(0), Runs.zeros(8),
            Runs.started(8, 0, 0, 8, 1), withLetters(0)};
        for (int i = 0; i < undone.length; i++) {
            KeyDistiller x = undone[i];
            CHECK.due("undone " + i, 0, () -> x.done() ? 1 : 0);
        }
        KeyDistiller x = Runs.started(4, 0, 0, 4, 1);
        for (int i = 0; i < 7; i++) {
            x.letter(0, 0);
        }
        CHECK.due("the last answer is under way", 0, () -> x.done() ? 1 : 0);
        x.letter(0, 2);
        x.letter(0, 0);
        CHECK.due("it came, and a letter is under way still", 1, () -> x.done() ? 1 : 0);
        x.letter(0, 0);
        x.tick();
        CHECK.due("done for ever", 1, () -> x.done() ? 1 : 0);
    }

    private static void promise12() {
        CHECK.about("12: NONE before the start, 4 when all is done.");
        CHECK.due("new", -1, () -> new KeyDistiller().pass());
        CHECK.due("recorded", -1, () -> Runs.recorded(8, 0, 0).pass());
        CHECK.due("sifted", -1, () -> Runs.zeros(8).pass());
        CHECK.due("none kept", -1, () -> Runs.zeros(0).pass());
        CHECK.due("started", 0, () -> Runs.started(8, 0, 0, 4, 1).pass());
        CHECK.due("done", 4, () -> Runs.talked(8, 0, 0, 4, 1).pass());
        KeyDistiller x = Runs.started(4, 0, 0, 4, 1);
        for (int i = 0; i < 7; i++) {
            x.letter(0, 0);
        }
        CHECK.due("the last answer is under way", 3, x::pass);
        CHECK.about("12: The pass that station 1 is in");
        // 13 places, K 4: four blocks of pass 0, a mended one in pass 0, then two of pass 1.
        KeyDistiller y = Runs.started(13, 0x1ACE, 0x1ACE ^ (1 << 2 | 1 << 10), 4, 0);
        int[] passes = {0, 0, 0, 0, 0, 0, 1, 1, 2, 3, 4};
        for (int i = 0; i < passes.length; i++) {
            CHECK.due("behind " + i + " answers", passes[i], y::pass);
            if (i < passes.length - 1) {
                y.letter(0, 0);
                y.letter(0, 0);
            }
        }
    }

    private static void promise13() {
        CHECK.about("13: How many questions station 0 has answered, each counted once.");
        CHECK.due("new", 0, () -> new KeyDistiller().disclosed());
        CHECK.due("sifted", 0, () -> Runs.zeros(8).disclosed());
        CHECK.due("asked and not answered", 0, () -> withLetters(16).disclosed());
        CHECK.due("lost before it came", 0, () -> withLetters(0).disclosed());
        KeyDistiller x = withLetters(16);
        for (int i = 0; i < 16; i++) {
            x.letter(0, 0);
            CHECK.due("the same question " + (i + 1) + " times", 1, x::disclosed);
        }
        CHECK.due("16 answers to it", Runs.letter(x, 0) + ", " + Runs.letter(x, 15), "1 1 0 -1 -1, 1 1 0 -1 -1");
        x.letter(0, 0);
        CHECK.due("the next is asked", 1, x::disclosed);
        x.letter(15, 0);
        CHECK.due("the next is answered", 2, x::disclosed);
        x.letter(15, 1);
        CHECK.due("its answer is lost", 2, x::disclosed);
        x.tick();
        x.letter(15, 0);
        CHECK.due("it is answered again", 2, x::disclosed);
        KeyDistiller late = withLetters(2);
        late.letter(0, 0);
        late.letter(1, 0);
        CHECK.due("the older question comes", 2, () -> late.letter(0, 0));
        CHECK.due("the newest is under way", Runs.letter(late, 0), "0 2 0 4 8");
        CHECK.due("and not answered by that", 1, late::disclosed);
    }

    private static void promise14() {
        CHECK.about("14: NONE when there is none.");
        for (int i : new int[] {-1, 0, 1, LEAST, GREATEST}) {
            CHECK.due("new, " + i, -1, () -> new KeyDistiller().answered(i));
            CHECK.due("sifted, " + i, -1, () -> Runs.zeros(8).answered(i));
            CHECK.due("asked and not answered, " + i, -1, () -> withLetters(16).answered(i));
        }
        KeyDistiller x = withLetters(2);
        x.letter(0, 0);
        CHECK.due("the first one", 4, () -> x.answered(0));
        CHECK.due("one behind the first", -1, () -> x.answered(1));
        x.letter(0, 0);
        CHECK.due("the same again is not another", -1, () -> x.answered(1));
        KeyDistiller done = Runs.zeros(128);
        done.start(4, 3);
        Runs.talk(done);
        CHECK.about("14: Question i that was answered (from 0): 65536 times its pass, 256 times from, and to.");
        CHECK.due("the first", 4, () -> done.answered(0));
        CHECK.due("the last", 65536 * 3 + 256 * 96 + 128, () -> done.answered(59));
        for (int i : new int[] {-1, 60, 511, 512, LEAST, GREATEST}) {
            CHECK.due("none, " + i, -1, () -> done.answered(i));
        }
    }

    private static void promise15() {
        CHECK.about("15: IndexOutOfBoundsException when there is no such station or bit.");
        for (int length : new int[] {1, 8, 127, 128}) {
            CHECK.bounds("length " + length + ", station", 0, 1, INDEX, s -> Runs.zeros(length).bit(s, 0));
            CHECK.bounds("length " + length + ", bit of 0", 0, length - 1, INDEX, i -> Runs.zeros(length).bit(0, i));
            CHECK.bounds("length " + length + ", bit of 1", 0, length - 1, INDEX, i -> Runs.zeros(length).bit(1, i));
        }
        CHECK.throwsDue("length 0, bit 0", INDEX, () -> Runs.zeros(0).bit(0, 0));
        CHECK.throwsDue("length 0, bit -1", INDEX, () -> Runs.zeros(0).bit(1, -1));
        KeyDistiller x = Runs.sifted(8, 255, 255);
        x.sample(1, 1);
        CHECK.due("the last behind a sample", 1, () -> x.bit(0, 6));
        CHECK.throwsDue("one behind it", INDEX, () -> x.bit(0, 7));
        CHECK.about("15: IllegalStateException before sifting");
        CHECK.throwsDue("new", STATE, () -> new KeyDistiller().bit(0, 0));
        CHECK.throwsDue("recorded", STATE, () -> Runs.recorded(8, 0, 0).bit(0, 0));
        CHECK.about("15: Bit i of a station's string as it is now.");
        KeyDistiller unlike = Runs.sifted(8, 0b11010010, 0b11110000);
        CHECK.due("of station 0", Runs.string(unlike, 0), "01001011");
        CHECK.due("of station 1", Runs.string(unlike, 1), "00001111");
        KeyDistiller ends = Runs.allPulses(new int[] {1, 0, 0, 1 << 31});
        CHECK.due("the first", 1, () -> ends.bit(1, 0));
        CHECK.due("the second", 0, () -> ends.bit(1, 1));
        CHECK.due("the last but one", 0, () -> ends.bit(0, 126));
        CHECK.due("the last", 1, () -> ends.bit(0, 127));
    }

    private static void promise16() {
        CHECK.about("16: IndexOutOfBoundsException when there is no such pass or item.");
        for (int length : new int[] {4, 8, 127, 128}) {
            for (int at : new int[] {0, length - 1}) {
                CHECK.bounds("length " + length + ", pass", 0, 3, INDEX, p -> startedZeros(length).item(p, at));
            }
            for (int pass : new int[] {0, 3}) {
                CHECK.bounds("length " + length + ", item", 0, length - 1, INDEX,
                    i -> startedZeros(length).item(pass, i));
            }
        }
        CHECK.about("16: IllegalStateException before the start");
        CHECK.throwsDue("new", STATE, () -> new KeyDistiller().item(0, 0));
        CHECK.throwsDue("recorded", STATE, () -> Runs.recorded(8, 0, 0).item(0, 0));
        CHECK.throwsDue("sifted", STATE, () -> Runs.zeros(8).item(0, 0));
        CHECK.about("16: Item i of the order of a pass.");
        KeyDistiller done = Runs.talked(7, 0, 0, 4, Long.MAX_VALUE);
        CHECK.due("when done, of pass 0", Runs.order(done, 0), "0 5 6 2 3 1 4");
        CHECK.due("when done, of pass 3", Runs.order(done, 3), "4 1 3 0 6 2 5");
    }

    private static KeyDistiller startedZeros(int n) {
        KeyDistiller x = Runs.zeros(n);
        x.start(4, 1);
        return x;
    }

    private static void promise17() {
        CHECK.about("17: IllegalArgumentException when there is no such station, or r is not 1 .. 65535.");
        for (int length : new int[] {0, 1, 16, 128}) {
            CHECK.bounds("length " + length + ", station", 0, 1, ARGUMENT, s -> Runs.zeros(length).tag(s, 1));
            CHECK.bounds("length " + length + ", r", 1, 65535, ARGUMENT, r -> Runs.zeros(length).tag(1, r));
        }
        CHECK.about("17: IllegalStateException before sifting");
        CHECK.throwsDue("new", STATE, () -> new KeyDistiller().tag(0, 1));
        CHECK.throwsDue("recorded", STATE, () -> Runs.recorded(8, 0, 0).tag(1, 65535));
        CHECK.about("17: The tag of a station.");
        CHECK.due("the least number", 32784, () -> Runs.sifted(16, 0, 1 << 15).tag(1, 1));
        CHECK.due("the greatest number", 4462, () -> Runs.sifted(16, 0, 1 << 15).tag(1, 65535));
        CHECK.due("the other station's", 16, () -> Runs.sifted(16, 0, 1 << 15).tag(0, 1));
    }

    /** 32 bits that are alike, four of them disclosed: without a margin a key of 12 bits is left. */
    private static KeyDistiller alike() {
        return Runs.talked(32, VALUES, VALUES, 32, 9);
    }

    private static void promise18() {
        CHECK.about("18: IllegalArgumentException when r is not 1 .. 65535, or the margin not 0 .. 128");
        CHECK.bounds("r", 1, 65535, ARGUMENT, r -> alike().shorten(1, r, 0));
        CHECK.due("margin 0", 12, () -> alike().shorten(1, 1, 0));
        CHECK.throwsDue("margin 128 is allowed, but leaves no bits", UNSUPPORTED, () -> alike().shorten(1, 1, 128));
        for (int margin : new int[] {-1, 129, LEAST, GREATEST}) {
            CHECK.throwsDue("margin " + margin, ARGUMENT, () -> alike().shorten(1, 1, margin));
        }
        CHECK.about("18: IllegalStateException when the dialogue is not done");
        CHECK.throwsDue("new", STATE, () -> new KeyDistiller().shorten(1, 1, 0));
        CHECK.throwsDue("recorded", STATE, () -> Runs.recorded(32, 0, 0).shorten(1, 1, 0));
        CHECK.throwsDue("sifted", STATE, () -> Runs.zeros(32).shorten(1, 1, 0));
        CHECK.throwsDue("started", STATE, () -> Runs.started(32, 0, 0, 32, 9).shorten(1, 1, 0));
        KeyDistiller x = Runs.started(32, VALUES, VALUES, 32, 9);
        for (int i = 0; i < 7; i++) {
            x.letter(0, 0);
        }
        CHECK.throwsDue("the last answer is under way", STATE, () -> x.shorten(1, 1, 0));
        x.letter(0, 0);
        CHECK.due("it came", 12, () -> x.shorten(1, 1, 0));
    }

    private static void promise18Bits() {
        CHECK.about("18: UnsupportedOperationException when the tags with r differ");
        CHECK.throwsDue("they differ", UNSUPPORTED, () -> Runs.talked(32, VALUES, TWO_OFF, 32, 9).shorten(1, 33, 0));
        CHECK.due("they are alike, the strings are not", 12,
            () -> Runs.talked(32, VALUES, TWO_OFF, 32, 9).shorten(1, 32, 0));
        CHECK.about("18: or the key would have no bits");
        CHECK.due("one bit", 1, () -> alike().shorten(1, 1, 11));
        CHECK.throwsDue("no bit", UNSUPPORTED, () -> alike().shorten(1, 1, 12));
        CHECK.throwsDue("one less than none", UNSUPPORTED, () -> alike().shorten(1, 1, 13));
        CHECK.throwsDue("the shortest string", UNSUPPORTED, () -> Runs.talked(4, 0, 0, 4, 1).shorten(1, 1, 0));
        CHECK.throwsDue("20 bits, 4 disclosed", UNSUPPORTED, () -> Runs.talked(20, 0, 0, 20, 1).shorten(1, 1, 0));
        CHECK.due("21 bits, 4 disclosed", 1, () -> Runs.talked(21, 0, 0, 21, 1).shorten(1, 1, 0));
        CHECK.about("18: Shortens: how many bits the key has: the length less what is disclosed, the margin, and 16.");
        KeyDistiller all = Runs.zeros(128);
        all.start(128, 1);
        Runs.talk(all);
        CHECK.due("the most", 108, () -> all.shorten(1, 65535, 0));
        CHECK.due("the greatest margin that leaves one", 1, () -> all.shorten(1, 65535, 107));
        CHECK.throwsDue("one more", UNSUPPORTED, () -> all.shorten(1, 65535, 108));
        KeyDistiller late = Runs.started(32, VALUES, VALUES, 32, 9);
        late.tick();
        late.letter(0, 0);
        late.letter(0, 0);
        CHECK.due("a question that is answered twice counts once", 12, () -> {
            late.letter(0, 1);
            Runs.talk(late);
            return late.shorten(1, 1, 0);
        });
    }

    private static KeyDistiller shortened(int margin) {
        KeyDistiller x = alike();
        x.shorten(2024, 1, margin);
        return x;
    }

    private static void promise19() {
        CHECK.about("19: IndexOutOfBoundsException when there is no such station or bit.");
        for (int margin : new int[] {0, 5, 11}) {
            int n = 12 - margin;
            CHECK.bounds(n + " bits, station", 0, 1, INDEX, s -> shortened(margin).key(s, 0));
            CHECK.bounds(n + " bits, bit of 0", 0, n - 1, INDEX, i -> shortened(margin).key(0, i));
            CHECK.bounds(n + " bits, bit of 1", 0, n - 1, INDEX, i -> shortened(margin).key(1, i));
        }
        CHECK.bounds("108 bits, bit", 0, 107, INDEX, i -> {
            KeyDistiller x = Runs.zeros(128);
            x.start(128, 1);
            Runs.talk(x);
            x.shorten(1, 1, 0);
            return x.key(0, i);
        });
        KeyDistiller[] without = {new KeyDistiller(), Runs.recorded(32, 0, 0), Runs.zeros(32),
            Runs.started(32, 0, 0, 32, 1), alike()};
        for (int i = 0; i < without.length; i++) {
            KeyDistiller x = without[i];
            for (int bit : new int[] {-1, 0, 1, LEAST, GREATEST}) {
                CHECK.throwsDue("no key yet, " + i + ", bit " + bit, INDEX, () -> x.key(0, bit));
            }
        }
    }

    private static void promise19Latest() {
        CHECK.about("19: Bit i of a station's key, as shortened latest.");
        KeyDistiller x = Runs.talked(32, VALUES, TWO_OFF, 32, 9);
        CHECK.throwsDue("refused: no key", UNSUPPORTED, () -> x.shorten(2024, 33, 0));
        CHECK.throwsDue("there is none", INDEX, () -> x.key(0, 0));
        x.shorten(2024, 32, 0);
        CHECK.due("at 0", Runs.key(x, 0, 12), "001000111000");
        CHECK.due("at 1", Runs.key(x, 1, 12), "101001011100");
        x.shorten(-7, 32, 7);
        CHECK.due("shorter", Runs.key(x, 0, 5), "00101");
        CHECK.throwsDue("the earlier one's bits are gone", INDEX, () -> x.key(0, 5));
        CHECK.throwsDue("refused", UNSUPPORTED, () -> x.shorten(2024, 33, 0));
        CHECK.throwsDue("refused for no bits", UNSUPPORTED, () -> x.shorten(2024, 32, 12));
        CHECK.throwsDue("refused for its arguments", ARGUMENT, () -> x.shorten(2024, 0, 0));
        CHECK.due("it stays at 0", Runs.key(x, 0, 5), "00101");
        CHECK.due("it stays at 1", Runs.key(x, 1, 5), "11100");
        x.shorten(2024, 32, 0);
        CHECK.due("longer again", Runs.key(x, 1, 12), "101001011100");
    }
}
