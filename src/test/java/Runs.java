/** Objects made ready, and what they show as texts, for several tests. Each uses at most 512 calls of an object. */
final class Runs {
    private Runs() {
    }

    /** Both stations have the same bases and station 1 saw all: values of up to 32 pulses. */
    static KeyDistiller recorded(int n, int values0, int values1) {
        KeyDistiller x = new KeyDistiller();
        if (n > 0) {
            x.record(0, 0, n, 0, values0, 0);
            x.record(1, 0, n, 0, values1, -1);
        }
        return x;
    }

    static KeyDistiller sifted(int n, int values0, int values1) {
        KeyDistiller x = recorded(n, values0, values1);
        x.sift();
        return x;
    }

    static KeyDistiller started(int n, int values0, int values1, int k, long seed) {
        KeyDistiller x = sifted(n, values0, values1);
        x.start(k, seed);
        return x;
    }

    static KeyDistiller talked(int n, int values0, int values1, int k, long seed) {
        KeyDistiller x = started(n, values0, values1, k, seed);
        talk(x);
        return x;
    }

    /** The first letter comes, again and again, until none is under way. */
    static void talk(KeyDistiller x) {
        int left = 1;
        for (int i = 0; i < 450 && left != 0; i++) {
            left = x.letter(0, 0);
        }
    }

    /** Strings of 0 to 128 bits, 32 of them in each word. */
    static KeyDistiller siftedLong(int n, int[] words0, int[] words1) {
        KeyDistiller x = new KeyDistiller();
        for (int from = 0; from < n; from += 32) {
            int some = Math.min(32, n - from);
            x.record(0, from, some, 0, words0[from / 32], 0);
            x.record(1, from, some, 0, words1[from / 32], -1);
        }
        x.sift();
        return x;
    }

    static KeyDistiller allPulses(int[] words) {
        return siftedLong(128, words, words);
    }

    /** Strings of n bits that are all 0. */
    static KeyDistiller zeros(int n) {
        return siftedLong(n, new int[4], new int[4]);
    }

    static String string(KeyDistiller x, int station) {
        StringBuilder text = new StringBuilder();
        int length = x.length();
        for (int i = 0; i < length; i++) {
            text.append(x.bit(station, i));
        }
        return text.toString();
    }

    static String letter(KeyDistiller x, int k) {
        StringBuilder text = new StringBuilder();
        for (int what = 0; what < 5; what++) {
            text.append(what == 0 ? "" : " ").append(x.told(k, what));
        }
        return text.toString();
    }

    static String order(KeyDistiller x, int pass) {
        StringBuilder text = new StringBuilder();
        int length = x.length();
        for (int i = 0; i < length; i++) {
            text.append(i == 0 ? "" : " ").append(x.item(pass, i));
        }
        return text.toString();
    }

    /** Each question that was answered as pass:from-to. */
    static String questions(KeyDistiller x) {
        StringBuilder text = new StringBuilder();
        int disclosed = x.disclosed();
        for (int i = 0; i < disclosed; i++) {
            int code = x.answered(i);
            text.append(i == 0 ? "" : " ").append(code / 65536).append(':').append(code / 256 % 256).append('-')
                .append(code % 256);
        }
        return text.toString();
    }

    static String key(KeyDistiller x, int station, int n) {
        StringBuilder text = new StringBuilder();
        for (int i = 0; i < n; i++) {
            text.append(x.key(station, i));
        }
        return text.toString();
    }
}
