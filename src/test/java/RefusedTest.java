import java.util.ArrayList;
import java.util.List;
import java.util.function.Supplier;

/**
 * "What throws changes nothing; the exceptions are tested in the order in which they are named": each refused call in
 * each state where it is refused, which exception comes, and that the object shows and goes on like one that was never
 * asked. So does one that was only looked at.
 */
public final class RefusedTest {
    private static final Class<IllegalArgumentException> ARGUMENT = IllegalArgumentException.class;
    private static final Class<IllegalStateException> STATE = IllegalStateException.class;
    private static final Class<IndexOutOfBoundsException> INDEX = IndexOutOfBoundsException.class;
    private static final Class<UnsupportedOperationException> UNSUPPORTED = UnsupportedOperationException.class;

    private static final int LEAST = Integer.MIN_VALUE;
    private static final int GREATEST = Integer.MAX_VALUE;

    /** The number with which the tags of done24 are alike. */
    private static final int ALIKE = 2;

    private static final Check CHECK = new Check();

    interface Ask {
        long of(KeyDistiller x);
    }

    record Refusal(String call, Class<? extends RuntimeException> thrown, Ask ask) {
    }

    private final String state;
    private final Supplier<KeyDistiller> maker;
    private final List<Refusal> refusals = new ArrayList<>();

    private RefusedTest(String state, Supplier<KeyDistiller> maker) {
        this.state = state;
        this.maker = maker;
    }

    public static void main(String[] args) {
        CHECK.each(
            new RefusedTest("new", KeyDistiller::new).always().beforeSifting().beforeTheStart().notDone()
                .noKey(0)::look,
            new RefusedTest("recorded", RefusedTest::recorded).always().recordedAlready().beforeSifting()
                .beforeTheStart().notDone().noKey(0)::look,
            new RefusedTest("none kept", () -> Runs.zeros(0)).always().sifted(0).beforeTheStart().noSample(0)
                .noStart(0).notDone().noKey(0)::look,
            new RefusedTest("three kept", () -> Runs.zeros(3)).always().sifted(3).beforeTheStart().noSample(3)
                .noStart(3).notDone().noKey(0)::look,
            new RefusedTest("sifted", RefusedTest::sifted24).always().sifted(24).beforeTheStart().noSample(24)
                .noStart(24).notDone().noKey(0)::look,
            new RefusedTest("sampled", RefusedTest::sampled20).always().sifted(20).beforeTheStart().noSample(20)
                .noStart(20).notDone().noKey(0)::look,
            new RefusedTest("started", RefusedTest::started20).always().sifted(20).begun(20).lettersAre(1).notDone()
                .noKey(0)::look,
            new RefusedTest("no letter", RefusedTest::withoutLetter).always().sifted(20).begun(20).lettersAre(0)
                .notDone().noKey(0)::look,
            new RefusedTest("16 letters", RefusedTest::withAllLetters).always().sifted(20).begun(20).lettersAre(16)
                .fullRow().notDone().noKey(0)::look,
            new RefusedTest("no bits left", RefusedTest::doneTooShort).always().sifted(20).begun(20).lettersAre(0)
                .done().noBitsLeft().noKey(0)::look,
            new RefusedTest("done", RefusedTest::done24).always().sifted(24).begun(24).lettersAre(2).done()
                .tagsDiffer().noKey(0)::look,
            new RefusedTest("shortened", RefusedTest::shortened24).always().sifted(24).begun(24).lettersAre(2).done()
                .tagsDiffer().noKey(3)::look);
        CHECK.end();
    }

    private static KeyDistiller recorded() {
        KeyDistiller x = new KeyDistiller();
        x.record(0, 4, 8, 0, 0xA5, 0);
        x.record(1, 4, 8, 0, 0xA4, -1);
        x.record(1, 127, 1, 0, 1, 1);
        return x;
    }

    private static KeyDistiller sifted24() {
        return Runs.sifted(24, 0x5A3C96, 0x5A1C97);
    }

    private static KeyDistiller sampled20() {
        KeyDistiller x = sifted24();
        x.sample(7, 4);
        return x;
    }

    private static KeyDistiller started20() {
        KeyDistiller x = sampled20();
        x.start(5, 8);
        return x;
    }

    private static KeyDistiller withoutLetter() {
        KeyDistiller x = started20();
        x.letter(0, 0);
        x.letter(0, 0);
        x.letter(0, 1);
        return x;
    }

    private static KeyDistiller withAllLetters() {
        KeyDistiller x = started20();
        x.letter(0, 0);
        x.letter(0, 2);
        x.letter(0, 0);
        x.letter(0, 2);
        for (int i = 0; i < 13; i++) {
            x.tick();
        }
        return x;
    }

    private static KeyDistiller doneTooShort() {
        KeyDistiller x = started20();
        Runs.talk(x);
        return x;
    }

    /** Two differences that no block shows; the tags with 2 are alike, those with 1 are not; two late letters. */
    private static KeyDistiller done24() {
        KeyDistiller x = Runs.started(24, 0x5A3C96, 0x5A3C96 ^ (1 | 1 << 17), 24, 8);
        x.letter(0, 2);
        x.letter(0, 0);
        x.letter(1, 2);
        for (int i = 0; i < 7; i++) {
            x.letter(i == 0 ? 1 : 2, 0);
        }
        return x;
    }

    private static KeyDistiller shortened24() {
        KeyDistiller x = done24();
        x.shorten(99, ALIKE, 1);
        return x;
    }

    private RefusedTest refuse(String call, Class<? extends RuntimeException> thrown, Ask ask) {
        refusals.add(new Refusal(call, thrown, ask));
        return this;
    }

    /** Wrong arguments of record and letter are told in every state, and so are letters that never are. */
    private RefusedTest always() {
        for (int station : new int[] {-1, 2, LEAST, GREATEST}) {
            refuse("record of station " + station, ARGUMENT, x -> x.record(station, 40, 1, 0, 0, 0));
            refuse("record of what is recorded, station " + station, ARGUMENT, x -> x.record(station, 4, 8, 0, 0, 0));
        }
        for (int n : new int[] {0, -1, 33, LEAST, GREATEST}) {
            refuse("record of n " + n, ARGUMENT, x -> x.record(0, 0, n, -1, -1, -1));
            refuse("record of what is recorded, n " + n, ARGUMENT, x -> x.record(1, 4, n, -1, -1, -1));
        }
        for (int from : new int[] {-1, 127, 128, LEAST, GREATEST}) {
            refuse("record of two from " + from, ARGUMENT, x -> x.record(1, from, 2, -1, -1, -1));
        }
        refuse("record of one too many", ARGUMENT, x -> x.record(0, 97, 32, -1, -1, -1));
        for (int action : new int[] {-1, 3, LEAST, GREATEST}) {
            for (int k : new int[] {-1, 0, 15, 16, LEAST, GREATEST}) {
                refuse("letter " + k + " with action " + action, ARGUMENT, x -> x.letter(k, action));
            }
        }
        for (int action = 0; action < 3; action++) {
            int a = action;
            for (int k : new int[] {-1, 16, LEAST, GREATEST}) {
                refuse("letter " + k + " with action " + a, INDEX, x -> x.letter(k, a));
            }
        }
        return this;
    }

    /** Pulses 4 .. 11 are recorded by both, 127 by station 1. */
    private RefusedTest recordedAlready() {
        return refuse("record of the first", STATE, x -> x.record(0, 0, 5, -1, -1, -1))
            .refuse("record of the last", STATE, x -> x.record(0, 11, 32, -1, -1, -1))
            .refuse("record of all", STATE, x -> x.record(1, 4, 8, -1, -1, -1))
            .refuse("record of 127", STATE, x -> x.record(1, 96, 32, -1, -1, -1));
    }

    private RefusedTest beforeSifting() {
        for (int n : new int[] {-1, 0, 1, 129, LEAST, GREATEST}) {
            refuse("sample of " + n, STATE, x -> x.sample(1, n));
        }
        for (int k : new int[] {3, 4, 129, LEAST, GREATEST}) {
            refuse("start with " + k, STATE, x -> x.start(k, 1));
        }
        for (int station : new int[] {-1, 0, 1, 2}) {
            refuse("bit of station " + station, STATE, x -> x.bit(station, 0));
            refuse("bit -1 of station " + station, STATE, x -> x.bit(station, -1));
            refuse("tag of station " + station, STATE, x -> x.tag(station, 1));
            refuse("tag with 0 of station " + station, STATE, x -> x.tag(station, 0));
            refuse("tag with 65536 of station " + station, STATE, x -> x.tag(station, 65536));
        }
        return this;
    }

    private RefusedTest beforeTheStart() {
        for (int pass : new int[] {-1, 0, 3, 4}) {
            refuse("item of pass " + pass, STATE, x -> x.item(pass, 0));
            refuse("item -1 of pass " + pass, STATE, x -> x.item(pass, -1));
        }
        return refuse("tick", STATE, KeyDistiller::tick).lettersAre(0);
    }

    private RefusedTest sifted(int length) {
        refuse("sift", STATE, KeyDistiller::sift);
        refuse("record of what is not recorded", STATE, x -> x.record(0, 100, 1, -1, -1, -1));
        refuse("record of what is recorded", STATE, x -> x.record(1, 0, 32, -1, -1, -1));
        for (int i : new int[] {-1, length, 128, LEAST, GREATEST}) {
            refuse("bit " + i + " of 0", INDEX, x -> x.bit(0, i));
            refuse("bit " + i + " of 1", INDEX, x -> x.bit(1, i));
        }
        for (int station : new int[] {-1, 2, LEAST, GREATEST}) {
            refuse("bit of station " + station, INDEX, x -> x.bit(station, 0));
            refuse("tag of station " + station, ARGUMENT, x -> x.tag(station, 1));
        }
        for (int r : new int[] {0, -1, 65536, LEAST, GREATEST}) {
            refuse("tag with " + r, ARGUMENT, x -> x.tag(1, r));
        }
        return this;
    }

    private RefusedTest noSample(int length) {
        for (int n : new int[] {-1, length + 1, 129, LEAST, GREATEST}) {
            refuse("sample of " + n, ARGUMENT, x -> x.sample(1, n));
        }
        return this;
    }

    private RefusedTest noStart(int length) {
        for (int k : new int[] {-1, 0, 3, length + 1, 129, LEAST, GREATEST}) {
            refuse("start with " + k, ARGUMENT, x -> x.start(k, 1));
        }
        return this;
    }

    private RefusedTest begun(int length) {
        for (int n : new int[] {-1, 0, 1, length, length + 1, LEAST, GREATEST}) {
            refuse("sample of " + n, STATE, x -> x.sample(1, n));
        }
        for (int k : new int[] {-1, 3, 4, length, length + 1, LEAST, GREATEST}) {
            refuse("start with " + k, STATE, x -> x.start(k, 1));
        }
        for (int pass : new int[] {-1, 4, LEAST, GREATEST}) {
            refuse("item of pass " + pass, INDEX, x -> x.item(pass, 0));
        }
        for (int i : new int[] {-1, length, 128, LEAST, GREATEST}) {
            refuse("item " + i + " of pass 0", INDEX, x -> x.item(0, i));
            refuse("item " + i + " of pass 3", INDEX, x -> x.item(3, i));
        }
        return this;
    }

    private RefusedTest lettersAre(int count) {
        for (int action = 0; action < 3; action++) {
            int a = action;
            refuse("letter " + count + ", which is not, action " + a, INDEX, x -> x.letter(count, a));
        }
        return this;
    }

    private RefusedTest fullRow() {
        for (int k = 0; k < 16; k++) {
            int at = k;
            refuse("letter " + k + " doubled", STATE, x -> x.letter(at, 2));
        }
        return this;
    }

    private RefusedTest notDone() {
        for (int r : new int[] {0, 1, 65535, 65536}) {
            for (int margin : new int[] {-1, 0, 128, 129}) {
                refuse("shorten with " + r + ", margin " + margin, STATE, x -> x.shorten(1, r, margin));
            }
        }
        return this;
    }

    /** Wrong arguments are told before tags that differ and a key without bits. */
    private RefusedTest done() {
        for (int r : new int[] {0, -1, 65536, LEAST, GREATEST}) {
            for (int margin : new int[] {0, 128}) {
                refuse("shorten with " + r + ", margin " + margin, ARGUMENT, x -> x.shorten(1, r, margin));
            }
        }
        for (int margin : new int[] {-1, 129, LEAST, GREATEST}) {
            for (int r : new int[] {0, 1, ALIKE, 65535}) {
                refuse("shorten with " + r + ", margin " + margin, ARGUMENT, x -> x.shorten(1, r, margin));
            }
        }
        return this;
    }

    private RefusedTest noBitsLeft() {
        return refuse("shorten", UNSUPPORTED, x -> x.shorten(1, 1, 0))
            .refuse("shorten with a margin", UNSUPPORTED, x -> x.shorten(1, 65535, 128));
    }

    private RefusedTest tagsDiffer() {
        return refuse("shorten with tags that differ", UNSUPPORTED, x -> x.shorten(1, 1, 0))
            .refuse("shorten with tags that differ to no bits", UNSUPPORTED, x -> x.shorten(1, 1, 128))
            .refuse("shorten to no bits", UNSUPPORTED, x -> x.shorten(1, ALIKE, 4))
            .refuse("shorten to less", UNSUPPORTED, x -> x.shorten(1, ALIKE, 128));
    }

    private RefusedTest noKey(int bits) {
        for (int i : new int[] {-1, bits, 128, LEAST, GREATEST}) {
            refuse("key bit " + i + " of 0", INDEX, x -> x.key(0, i));
            refuse("key bit " + i + " of 1", INDEX, x -> x.key(1, i));
        }
        for (int station : new int[] {-1, 2, LEAST, GREATEST}) {
            refuse("key of station " + station, INDEX, x -> x.key(station, 0));
        }
        return this;
    }

    private void look() {
        CHECK.about("What throws changes nothing; the exceptions are tested in the order in which they are named.");
        String shown = shows(maker.get());
        String gone = goesOn(maker.get());
        for (Refusal refusal : refusals) {
            String what = state + ": " + refusal.call();
            KeyDistiller looked = maker.get();
            CHECK.throwsDue(what, refusal.thrown(), () -> refusal.ask().of(looked));
            CHECK.due(what + " shows", shows(looked), shown);
            KeyDistiller going = maker.get();
            Check.outcome(() -> refusal.ask().of(going));
            CHECK.due(what + " goes on", goesOn(going), gone);
        }
        // A refused call may leave something behind that shows only when the next one is refused too.
        KeyDistiller all = maker.get();
        for (int i = 0; i < 100; i++) {
            Refusal refusal = refusals.get(i % refusals.size());
            CHECK.throwsDue(state + ", one behind the other: " + refusal.call(), refusal.thrown(),
                () -> refusal.ask().of(all));
        }
        CHECK.due(state + ": behind all", shows(all), shown);
        // Nothing but the changes that the document tells: what only looks changes nothing.
        KeyDistiller seen = maker.get();
        shows(seen);
        CHECK.due(state + ": behind a look", goesOn(seen), gone);
    }

    /** All that can be seen of it. */
    private static String shows(KeyDistiller x) {
        StringBuilder text = new StringBuilder();
        text.append(x.length()).append(' ').append(x.sampled(0)).append(' ').append(x.sampled(1)).append(' ')
            .append(x.pass()).append(' ').append(x.done()).append(' ').append(Runs.questions(x));
        for (int k = 0; k < 16 && x.told(k, 0) != KeyDistiller.NONE; k++) {
            text.append('\n').append(Runs.letter(x, k));
        }
        if (x.length() != KeyDistiller.NONE) {
            text.append('\n').append(Runs.string(x, 0)).append(' ').append(Runs.string(x, 1));
        }
        for (int pass = 0; pass < 4 && x.pass() != KeyDistiller.NONE; pass++) {
            text.append('\n').append(Runs.order(x, pass));
        }
        text.append('\n').append(Check.outcome(() -> x.tag(0, 77)));
        text.append(' ').append(Check.outcome(() -> x.tag(1, 77))).append('\n');
        for (int i = 0; i < 12; i++) {
            int at = i;
            text.append(Check.outcome(() -> x.key(0, at))).append(Check.outcome(() -> x.key(1, at)));
        }
        return text.toString();
    }

    /** The answers of a run that goes on from any state to a key, if it can. */
    private static String goesOn(KeyDistiller x) {
        StringBuilder text = new StringBuilder();
        Ask[] asks = {y -> y.record(0, 12, 20, 3, 0x35A3C, 0), y -> y.record(1, 12, 20, 3, 0x35A2C, -1),
            y -> y.record(0, 127, 1, 0, 1, 0), KeyDistiller::sift, y -> y.sample(3, 2), y -> y.start(4, 5),
            KeyDistiller::tick, y -> y.tag(0, 77), y -> y.tag(1, 77)};
        for (Ask ask : asks) {
            text.append(Check.outcome(() -> ask.of(x))).append(' ');
        }
        for (int i = 0; i < 150 && x.told(0, 0) != KeyDistiller.NONE; i++) {
            text.append(x.letter(0, 0));
        }
        text.append(Check.outcome(() -> x.shorten(5, ALIKE, 0))).append(' ').append(Check.outcome(() -> x.key(1, 0)));
        text.append('\n').append(x.disclosed()).append(' ').append(x.pass()).append(' ').append(x.sampled(0));
        return text.toString();
    }
}
