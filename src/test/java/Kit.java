import java.nio.charset.StandardCharsets;
import java.util.function.IntUnaryOperator;

/** What the tests share: feeding texts, reading answers back as texts, and counting what is wrong. */
final class Kit {
    static final int[] FAR = {Integer.MIN_VALUE, -100001, -1000, 1000, 100002, Integer.MAX_VALUE};

    private static final int PROMISES = 26;
    private static final int[] checksOf = new int[PROMISES + 1];
    private static int checks = 0;
    private static int wrong = 0;

    private Kit() {
    }

    static void due(String call, Object got, Object want) {
        checks++;
        if (!got.equals(want)) {
            wrong++;
            System.out.println(call + " answered " + got + ", due is " + want);
        }
    }

    /** One boundary of a promise: its number goes into what is printed, and is counted. */
    static void promise(int number, String edge, Object got, Object want) {
        checksOf[number]++;
        due("promise " + number + ": " + edge, got, want);
    }

    /** Fails when one of these promises was not looked at. */
    static void covered(int from, int to) {
        for (int number = from; number <= to; number++) {
            due("promise " + number + " has a test", checksOf[number] > 0, true);
        }
    }

    static void close() {
        System.out.println(checks + " checks, " + wrong + " wrong");
        if (wrong != 0 || checks == 0) {
            System.exit(1);
        }
    }

    /** Puts a text alone on the tape. */
    static SpellTurner load(SpellTurner x, String text) {
        x.end(0);
        return put(x, text);
    }

    /** Puts a text on a tape that is empty, with few calls: an object is good for 512. */
    static SpellTurner put(SpellTurner x, String text) {
        byte[] bytes = text.getBytes(StandardCharsets.ISO_8859_1);
        for (int at = 0; at < bytes.length; at += 20) {
            x.feed(four(bytes, at), four(bytes, at + 4), four(bytes, at + 8), four(bytes, at + 12), four(bytes, at + 16));
        }
        if (bytes.length % 20 != 0 && x.end(bytes.length) != bytes.length) {
            throw new IllegalStateException("the tape did not take " + text);
        }
        return x;
    }

    static int four(byte[] bytes, int at) {
        int sum = 0;
        for (int i = at; i < at + 4; i++) {
            sum = sum << 8 | (i < bytes.length ? bytes[i] & 255 : 32);
        }
        return sum;
    }

    /** The letters that a call answers one by one, up to NONE. */
    static String spell(IntUnaryOperator letter) {
        StringBuilder all = new StringBuilder();
        int next = letter.applyAsInt(0);
        for (int i = 1; i < 3000 && next != SpellTurner.NONE; i++) {
            all.append((char) next);
            next = letter.applyAsInt(i);
        }
        return all.toString();
    }

    static String forms(SpellTurner x) {
        StringBuilder all = new StringBuilder();
        for (int k = 0; x.form(k, 0) != SpellTurner.NONE; k++) {
            int form = k;
            all.append(k == 0 ? "" : " ").append(spell(i -> x.form(form, i)));
        }
        return all.toString();
    }

    /** The forms of a word from one stage to another; "RANGE" when there is no such turning. */
    static String turned(SpellTurner x, String word, int from, int to) {
        return load(x, word).turn(from, to) == SpellTurner.RANGE ? "RANGE" : forms(x);
    }

    static String partings(SpellTurner x) {
        StringBuilder all = new StringBuilder();
        for (int k = 0; x.parting(k, 0) != SpellTurner.NONE; k++) {
            all.append(k == 0 ? "" : " ");
            for (int i = 0; i < x.parting(k, 0); i++) {
                all.append(i == 0 ? "" : "+").append(x.parting(k, 1 + i));
            }
        }
        return all.toString();
    }

    static String lines(SpellTurner x) {
        StringBuilder all = new StringBuilder();
        for (int i = 0; x.line(i) != SpellTurner.NONE; i++) {
            all.append(x.line(i));
        }
        return all.toString();
    }

    static String written(SpellTurner x) {
        return spell(x::written);
    }

    static String counted(SpellTurner x) {
        StringBuilder all = new StringBuilder();
        for (int what = 0; what < 5; what++) {
            all.append(what == 0 ? "" : " ").append(x.counted(what));
        }
        return all.toString();
    }

    static String fault(SpellTurner x, String text, int day) {
        int answer = load(x, text).reform(day);
        return answer + " " + x.fault(0) + " " + x.fault(1);
    }

    static SpellTurner withReforms(String... texts) {
        SpellTurner x = new SpellTurner();
        for (int r = 0; r < texts.length; r++) {
            if (put(x, texts[r]).reform(r + 1) != r) {
                throw new IllegalStateException("no reform: " + texts[r]);
            }
        }
        return x;
    }

    static SpellTurner learn(SpellTurner x, String... words) {
        for (String word : words) {
            put(x, word).learn();
        }
        return x;
    }
}
