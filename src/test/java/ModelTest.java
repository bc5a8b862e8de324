import java.util.Random;

/** Random runs of at most 512 calls, each answer compared with the model's. */
public final class ModelTest {
    private static final int MOST_CALLS = 512;
    private static final int RUNS = 1500;
    private static final int[] ODD_NUMBERS = {-1, 0, 1, 2, 3, 4, 5, 15, 16, 17, 31, 32, 33, 127, 128, 129, 65535, 65536,
        Integer.MIN_VALUE, Integer.MAX_VALUE};

    private static final Check CHECK = new Check();

    private final int run;
    private final Random random;
    private final KeyDistiller x = new KeyDistiller();
    private final Model model = new Model();
    private int calls = 0;
    private boolean isRowFilled = false;

    private ModelTest(int run) {
        this.run = run;
        this.random = new Random(run);
    }

    public static void main(String[] args) {
        int ended = 0;
        int shortened = 0;
        int filled = 0;
        int used = 0;
        for (int run = 0; run < RUNS && !CHECK.isWrong(); run++) {
            ModelTest test = new ModelTest(run);
            test.play();
            ended += test.model.done() ? 1 : 0;
            shortened += Check.outcome(() -> test.model.key(0, 0)).startsWith("throws") ? 0 : 1;
            filled += test.isRowFilled ? 1 : 0;
            used += test.calls == MOST_CALLS ? 1 : 0;
        }
        // Runs that never come to an end, or never to a limit, would leave that without a test.
        CHECK.holds("many dialogues are done", ended > RUNS / 2);
        CHECK.holds("many keys are shortened", shortened > RUNS / 10);
        CHECK.holds("many rows have 16 letters", filled > RUNS / 20);
        CHECK.holds("many objects are used for 512 calls", used > RUNS / 20);
        CHECK.end();
    }

    private void play() {
        if (random.nextInt(20) == 0) {
            looks(10);
        }
        recordAll();
        both("sift()", x::sift, model::sift);
        looks(3);
        sampleSome();
        startSome();
        int trouble = random.nextInt(4) * random.nextInt(8);
        while (calls < MOST_CALLS - 40 && !model.done()) {
            if (random.nextInt(6) == 0) {
                looks(1);
            } else if (trouble > 0 && random.nextInt(200) == 0) {
                flood();
            } else {
                mail(trouble);
            }
        }
        for (int i = 0; i < 4; i++) {
            shortenSome();
            looks(6);
        }
        if (random.nextInt(8) == 0) {
            useUp();
        }
    }

    private void useUp() {
        for (int i = 0; i < 10 * MOST_CALLS && calls < MOST_CALLS; i++) {
            if (model.pass() != -1 && random.nextInt(3) == 0) {
                mail(50);
            } else {
                looks(1);
            }
        }
    }

    private void both(String call, Check.Call mine, Check.Call due) {
        if (calls < MOST_CALLS) {
            calls++;
            CHECK.due("run " + run + " call " + calls + " " + call, Check.outcome(mine), Check.outcome(due));
        }
    }

    private int odd() {
        return ODD_NUMBERS[random.nextInt(ODD_NUMBERS.length)];
    }

    private int small(int below) {
        return random.nextInt(30) == 0 ? odd() : random.nextInt(below);
    }

    private void recordOne(int station, int from, int n, int bases, int values, int seen) {
        both("record(" + station + ", " + from + ", " + n + ", " + bases + ", " + values + ", " + seen + ")",
            () -> x.record(station, from, n, bases, values, seen),
            () -> model.record(station, from, n, bases, values, seen));
    }

    private void recordAll() {
        int pulses = random.nextInt(5) == 0 ? random.nextInt(129) : 128;
        int basesDiffer = random.nextInt(3) == 0 ? 2 : 0;
        int errors = random.nextInt(5);
        for (int from = 0; from < pulses; from += 32) {
            int n = Math.min(32, pulses - from);
            int bases = random.nextInt();
            int values = random.nextInt();
            int noise = 0;
            for (int e = 0; e < errors; e++) {
                noise |= 1 << random.nextInt(32);
            }
            int differ = basesDiffer == 0 ? 0 : random.nextInt() & random.nextInt();
            recordOne(0, from, n, bases, values, random.nextInt());
            recordOne(1, from, n, bases ^ differ, values ^ noise, random.nextInt(3) == 0 ? random.nextInt() : -1);
            if (random.nextInt(10) == 0) {
                recordOne(small(3), random.nextInt(140) - 5, small(40), 0, 0, 0);
            }
        }
    }

    private void sampleSome() {
        int times = random.nextInt(4);
        for (int i = 0; i < times; i++) {
            long seed = random.nextLong();
            int n = small(20);
            both("sample(" + seed + ", " + n + ")", () -> x.sample(seed, n), () -> model.sample(seed, n));
        }
    }

    private void startSome() {
        for (int i = 0; i < 10 && model.pass() == -1; i++) {
            long seed = random.nextInt(10) == 0 ? Long.MAX_VALUE - random.nextInt(4) : random.nextLong();
            int k = random.nextBoolean() ? 4 + random.nextInt(12) : random.nextInt(135);
            both("start(" + k + ", " + seed + ")", () -> x.start(k, seed), () -> model.start(k, seed));
        }
        looks(2);
    }

    private void mail(int trouble) {
        int chance = random.nextInt(100);
        int k = model.told(1, 0) == -1 ? 0 : random.nextInt(chance < trouble ? 17 : 3);
        if (model.told(0, 0) == -1 || chance < trouble / 4) {
            both("tick()", x::tick, model::tick);
            return;
        }
        isRowFilled |= model.told(15, 0) != -1;
        int action = chance >= trouble ? 0 : chance < 1 ? odd() : random.nextInt(3);
        both("letter(" + k + ", " + action + ")", () -> x.letter(k, action), () -> model.letter(k, action));
    }

    /** So many letters that the row has no place for the last ones. */
    private void flood() {
        for (int i = 0; i < 18; i++) {
            if (random.nextBoolean()) {
                both("tick()", x::tick, model::tick);
            } else {
                int k = random.nextInt(17);
                both("letter(" + k + ", 2)", () -> x.letter(k, 2), () -> model.letter(k, 2));
            }
        }
    }

    private void shortenSome() {
        long seed = random.nextLong();
        int r = random.nextInt(10) == 0 ? odd() : 1 + random.nextInt(65535);
        int margin = random.nextBoolean() ? 0 : small(30);
        both("shorten(" + seed + ", " + r + ", " + margin + ")", () -> x.shorten(seed, r, margin),
            () -> model.shorten(seed, r, margin));
    }

    private void looks(int times) {
        for (int i = 0; i < times; i++) {
            look(random.nextInt(13), small(2), small(130));
        }
    }

    private void look(int which, int a, int b) {
        switch (which) {
            case 0 -> both("length()", x::length, model::length);
            case 1 -> both("sampled(" + a + ")", () -> x.sampled(a), () -> model.sampled(a));
            case 2 -> {
                int k = small(3);
                int what = small(6);
                both("told(" + k + ", " + what + ")", () -> x.told(k, what), () -> model.told(k, what));
            }
            case 3 -> both("done()", () -> x.done() ? 1 : 0, () -> model.done() ? 1 : 0);
            case 4 -> both("pass()", x::pass, model::pass);
            case 5 -> both("disclosed()", x::disclosed, model::disclosed);
            case 6 -> both("answered(" + b + ")", () -> x.answered(b), () -> model.answered(b));
            case 7 -> both("bit(" + a + ", " + b + ")", () -> x.bit(a, b), () -> model.bit(a, b));
            case 8 -> {
                int pass = small(4);
                both("item(" + pass + ", " + b + ")", () -> x.item(pass, b), () -> model.item(pass, b));
            }
            case 9 -> {
                int r = random.nextInt(10) == 0 ? odd() : random.nextInt(65536);
                both("tag(" + a + ", " + r + ")", () -> x.tag(a, r), () -> model.tag(a, r));
            }
            case 10 -> {
                int i = small(60);
                both("key(" + a + ", " + i + ")", () -> x.key(a, i), () -> model.key(a, i));
            }
            case 11 -> {
                if (random.nextInt(10) == 0 && model.length() != -1) {
                    both("sift()", x::sift, model::sift);
                }
            }
            default -> {
                if (random.nextInt(4) == 0 && model.pass() != -1) {
                    both("start(4, 1)", () -> x.start(4, 1), () -> model.start(4, 1));
                }
            }
        }
    }
}
