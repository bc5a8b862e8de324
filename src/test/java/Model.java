import java.math.BigInteger;
import java.util.ArrayList;
import java.util.HashMap;
import java.util.List;
import java.util.Map;
import java.util.TreeMap;

/**
 * The document's words done slowly and in another way than the program does them: numbers drawn with BigInteger, and
 * the whole dialogue played again from its start, with all parities that are known, whenever one more is.
 */
final class Model {
    private static final BigInteger TWO_64 = BigInteger.ONE.shiftLeft(64);

    record Pulse(int basis, int value, boolean seen) {
    }

    record Question(int pass, int from, int to) {
    }

    record Letter(boolean isAnswer, int number, int parity) {
    }

    private final List<Map<Integer, Pulse>> recorded = List.of(new TreeMap<>(), new TreeMap<>());
    private List<List<Integer>> strings = null;
    private int givenUp = 0;
    private int differed = 0;
    private int size = 0;
    private List<List<Integer>> orders = null;
    private List<Integer> stringAtStart = null;
    private final Map<Question, Integer> known = new HashMap<>();
    private final List<Question> asked = new ArrayList<>();
    private final List<Question> answered = new ArrayList<>();
    private final List<Letter> letters = new ArrayList<>();
    private int pass = -1;
    private List<List<Integer>> keys = null;

    private static BigInteger next(BigInteger s) {
        return s.multiply(new BigInteger("6364136223846793005")).add(new BigInteger("1442695040888963407")).mod(TWO_64);
    }

    private static List<Integer> shuffle(int n, long seed) {
        BigInteger s = BigInteger.valueOf(seed).mod(TWO_64);
        List<Integer> places = new ArrayList<>();
        for (int j = 0; j < n; j++) {
            places.add(j);
        }
        for (int j = n - 1; j >= 1; j--) {
            BigInteger k = BigInteger.valueOf(j + 1);
            BigInteger limit = BigInteger.TWO.pow(31).divide(k).multiply(k);
            BigInteger r;
            do {
                s = next(s);
                r = s.shiftRight(33);
            } while (r.compareTo(limit) >= 0);
            int other = r.mod(k).intValue();
            places.set(j, places.set(other, places.get(j)));
        }
        return places;
    }

    private static boolean isStation(int station) {
        return station == 0 || station == 1;
    }

    private static void argument(boolean right) {
        if (!right) {
            throw new IllegalArgumentException();
        }
    }

    private static void state(boolean right) {
        if (!right) {
            throw new IllegalStateException();
        }
    }

    private static void index(boolean right) {
        if (!right) {
            throw new IndexOutOfBoundsException();
        }
    }

    int record(int station, int from, int n, int bases, int values, int seen) {
        argument(isStation(station) && n >= 1 && n <= 32 && from >= 0 && (long) from + n <= 128);
        state(strings == null);
        Map<Integer, Pulse> of = recorded.get(station);
        for (int i = from; i < from + n; i++) {
            state(!of.containsKey(i));
        }
        for (int k = 0; k < n; k++) {
            int bit = 1 << k;
            of.put(from + k, new Pulse((bases & bit) == 0 ? 0 : 1, (values & bit) == 0 ? 0 : 1, (seen & bit) != 0));
        }
        return of.size();
    }

    int sift() {
        state(strings == null);
        strings = List.of(new ArrayList<>(), new ArrayList<>());
        recorded.get(0).forEach((number, mine) -> {
            Pulse other = recorded.get(1).get(number);
            if (other != null && other.seen() && other.basis() == mine.basis()) {
                strings.get(0).add(mine.value());
                strings.get(1).add(other.value());
            }
        });
        return length();
    }

    int length() {
        return strings == null ? -1 : strings.get(0).size();
    }

    int sample(long seed, int n) {
        state(strings != null && pass == -1);
        argument(n >= 0 && n <= length());
        List<Integer> out = new ArrayList<>(shuffle(length(), seed).subList(0, n));
        out.sort((a, b) -> b - a);
        int differ = 0;
        for (int position : out) {
            if (!strings.get(0).remove(position).equals(strings.get(1).remove(position))) {
                differ++;
            }
        }
        givenUp += n;
        differed += differ;
        return differ;
    }

    int sampled(int what) {
        return what == 0 ? givenUp : what == 1 ? differed : -1;
    }

    int start(int k, long seed) {
        state(strings != null && pass == -1);
        argument(k >= 4 && k <= length());
        size = k;
        stringAtStart = List.copyOf(strings.get(1));
        orders = List.of(shuffle(length(), seed), shuffle(length(), seed + 1), shuffle(length(), seed + 2),
            shuffle(length(), seed + 3));
        play();
        return letters.size();
    }

    private void send(Letter letter) {
        if (letters.size() < 16) {
            letters.add(letter);
        }
    }

    private int parity(List<Integer> string, Question range) {
        return orders.get(range.pass()).subList(range.from(), range.to()).stream().mapToInt(string::get).sum() % 2;
    }

    private List<Question> blocks(int p) {
        List<Question> all = new ArrayList<>();
        for (int from = 0; from < length(); from += size * (1 << p)) {
            all.add(new Question(p, from, Math.min(length(), from + size * (1 << p))));
        }
        return all;
    }

    /** The dialogue from its start up to the first parity that is not known. */
    private void play() {
        List<Integer> string = new ArrayList<>(stringAtStart);
        Question open = null;
        for (pass = 0; pass < 4; pass++) {
            open = playPass(string);
            if (open != null) {
                break;
            }
        }
        strings.get(1).clear();
        strings.get(1).addAll(string);
        if (open != null) {
            asked.add(open);
            send(new Letter(false, asked.size(), 0));
        }
    }

    private Question playPass(List<Integer> string) {
        for (Question block : blocks(pass)) {
            if (!known.containsKey(block)) {
                return block;
            }
        }
        while (true) {
            Question odd = null;
            for (int p = pass; p >= 0; p--) {
                List<Question> all = blocks(p);
                for (int b = all.size() - 1; b >= 0; b--) {
                    Question block = all.get(b);
                    boolean isFewer = odd == null || block.to() - block.from() <= odd.to() - odd.from();
                    if (isFewer && known.get(block) != parity(string, block)) {
                        odd = block;
                    }
                }
            }
            if (odd == null) {
                return null;
            }
            Question open = search(odd, string);
            if (open != null) {
                return open;
            }
        }
    }

    private Question search(Question range, List<Integer> string) {
        int places = range.to() - range.from();
        if (places == 1) {
            int position = orders.get(range.pass()).get(range.from());
            string.set(position, 1 - string.get(position));
            return null;
        }
        int middle = range.from() + places / 2 + places % 2;
        Question first = new Question(range.pass(), range.from(), middle);
        if (!known.containsKey(first)) {
            return first;
        }
        boolean isOdd = known.get(first) != parity(string, first);
        return search(isOdd ? first : new Question(range.pass(), middle, range.to()), string);
    }

    int letter(int k, int action) {
        argument(action >= 0 && action <= 2);
        index(k >= 0 && k < letters.size());
        state(action != 2 || letters.size() < 16);
        if (action == 2) {
            letters.add(letters.get(k));
            return letters.size();
        }
        Letter letter = letters.remove(k);
        if (action == 0) {
            comes(letter);
        }
        return letters.size();
    }

    private void comes(Letter letter) {
        Question question = asked.get(letter.number() - 1);
        if (!letter.isAnswer()) {
            if (!answered.contains(question)) {
                answered.add(question);
            }
            send(new Letter(true, letter.number(), parity(strings.get(0), question)));
        } else if (letter.number() == asked.size() && !known.containsKey(question)) {
            known.put(question, letter.parity());
            play();
        }
    }

    int told(int k, int what) {
        if (k < 0 || k >= letters.size() || what < 0 || what > 4) {
            return -1;
        }
        Letter letter = letters.get(k);
        Question q = asked.get(letter.number() - 1);
        int[] all = letter.isAnswer() ? new int[] {1, letter.number(), letter.parity(), -1, -1}
            : new int[] {0, letter.number(), q.pass(), q.from(), q.to()};
        return all[what];
    }

    int tick() {
        state(pass != -1);
        if (!known.containsKey(asked.get(asked.size() - 1))) {
            send(new Letter(false, asked.size(), 0));
        }
        return letters.size();
    }

    boolean done() {
        return pass == 4;
    }

    int pass() {
        return pass;
    }

    int disclosed() {
        return answered.size();
    }

    int answered(int i) {
        if (i < 0 || i >= answered.size()) {
            return -1;
        }
        Question q = answered.get(i);
        return 65536 * q.pass() + 256 * q.from() + q.to();
    }

    int bit(int station, int i) {
        state(strings != null);
        index(isStation(station) && i >= 0 && i < length());
        return strings.get(station).get(i);
    }

    int item(int p, int i) {
        state(pass != -1);
        index(p >= 0 && p < 4 && i >= 0 && i < length());
        return orders.get(p).get(i);
    }

    private static long product(long a, long b) {
        long all = 0;
        for (int k = 0; k < 16; k++) {
            all ^= (b >> k & 1) * (a << k);
        }
        for (int k = 31; k >= 16; k--) {
            if ((all >> k & 1) == 1) {
                all ^= (1L << 16 | 1 << 5 | 1 << 3 | 1 << 1 | 1) << (k - 16);
            }
        }
        return all;
    }

    int tag(int station, int r) {
        state(strings != null);
        argument(isStation(station) && r >= 1 && r <= 65535);
        List<Integer> filled = new ArrayList<>(strings.get(station));
        while (filled.size() % 16 != 0) {
            filled.add(0);
        }
        long t = 0;
        for (int i = 0; i < filled.size(); i += 16) {
            long word = 0;
            for (int j = 15; j >= 0; j--) {
                word = 2 * word + filled.get(i + j);
            }
            t = product(r, t ^ word);
        }
        return (int) product(r, t ^ length());
    }

    int shorten(long seed, int r, int margin) {
        state(pass == 4);
        argument(r >= 1 && r <= 65535 && margin >= 0 && margin <= 128);
        int n = length() - disclosed() - margin - 16;
        if (tag(0, r) != tag(1, r) || n <= 0) {
            throw new UnsupportedOperationException();
        }
        List<Boolean> b = new ArrayList<>();
        BigInteger s = BigInteger.valueOf(seed).mod(TWO_64);
        for (int i = 0; i <= length() + n - 2; i++) {
            s = next(s);
            b.add(s.testBit(63));
        }
        keys = List.of(new ArrayList<>(), new ArrayList<>());
        for (int station = 0; station < 2; station++) {
            for (int j = 0; j < n; j++) {
                int ones = 0;
                for (int i = 0; i < length(); i++) {
                    ones += b.get(i + n - 1 - j) ? strings.get(station).get(i) : 0;
                }
                keys.get(station).add(ones % 2);
            }
        }
        return n;
    }

    int key(int station, int i) {
        index(isStation(station) && keys != null && i >= 0 && i < keys.get(0).size());
        return keys.get(station).get(i);
    }
}
