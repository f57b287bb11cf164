/** Terms III, TEXTS and MIXED, with promises 21 to 25 at their boundaries. */
public final class TextEdgesTest {
    private static final int NONE = SpellTurner.NONE;
    private static final int RANGE = SpellTurner.RANGE;
    private static final String A_TO_B = "law 'a' to 'b';";

    private TextEdgesTest() {
    }

    private static void due(int promise, String edge, Object got, Object want) {
        Kit.promise(promise, edge, got, want);
    }

    /** The text that one reform makes of a text, and what was counted. */
    private static String by(String reform, String text) {
        SpellTurner x = Kit.withReforms(reform);
        int size = Kit.put(x, text).write(0, 1);
        return size == Kit.written(x).length() ? Kit.written(x) + "|" + Kit.counted(x) : "answered " + size;
    }

    public static void main(String[] args) {
        writeStages();
        emptyText();
        bytesOfAnyKind();
        byteZero();
        wordsAndNames();
        quotes();
        longWords();
        firstForm();
        mostBytes();
        longestTape();
        shorterTexts();
        writtenEdges();
        countedEdges();
        countedEach();
        refusedLeaveTheText();
        prices();
        lines();
        lineEdges();
        wordsThatCost();
        leastSum();
        leastRow();
        mostStages();
        Kit.covered(21, 25);
        Kit.close();
    }

    private static void writeStages() {
        SpellTurner x = Kit.withReforms(A_TO_B, "law 'b' to 'c';");
        due(21, "none between", Kit.put(x, "ab").write(0, 0) + " " + Kit.written(x), "2 ab");
        due(21, "the first", Kit.put(x, "ab").write(0, 1) + " " + Kit.written(x), "2 bb");
        due(21, "both", Kit.put(x, "ab").write(0, 2) + " " + Kit.written(x), "2 cc");
        due(21, "the second", Kit.put(x, "ab").write(1, 2) + " " + Kit.written(x), "2 ac");
        due(21, "none at the end", Kit.put(x, "ab").write(2, 2) + " " + Kit.written(x), "2 ab");
        int[][] wrong = {{-1, 0}, {-1, -1}, {0, -1}, {1, 0}, {2, 1}, {0, 3}, {3, 3}, {Integer.MIN_VALUE, Integer.MAX_VALUE}, {0, Integer.MAX_VALUE}, {Integer.MIN_VALUE, 2}};
        for (int[] stages : wrong) {
            due(21, "from " + stages[0] + " to " + stages[1], Kit.put(x, "ab").write(stages[0], stages[1]), RANGE);
        }
        due(21, "no such stages ahead of a byte 0", Kit.put(x, "\0").write(1, 0), RANGE);
        due(21, "RANGE left the text", Kit.written(x), "ab");
    }

    private static void emptyText() {
        SpellTurner x = Kit.withReforms(A_TO_B);
        Kit.put(x, "a A").write(0, 1);
        due(21, "no bytes", x.write(0, 1), 0);
        due(22, "none of an empty text", x.written(0), NONE);
        due(23, "none counted in an empty text", Kit.counted(x), "0 0 0 0 0");
        due(21, "one byte", Kit.put(x, "a").write(0, 1) + " " + x.written(0) + " " + x.written(1), "1 98 -1");
    }

    private static void bytesOfAnyKind() {
        SpellTurner x = Kit.withReforms("");
        StringBuilder all = new StringBuilder();
        for (int b = 1; b < 256; b++) {
            all.append((char) b);
        }
        due(21, "all bytes but 0", Kit.put(x, all.toString()).write(0, 1), 255);
        for (int b = 1; b < 256; b++) {
            due(22, "byte " + b, x.written(b - 1), b);
        }
        SpellTurner runs = Kit.withReforms(A_TO_B);
        int[] between = {1, 9, 10, 13, 32, 33, 35, 39, 45, 48, 57, 64, 91, 96, 123, 127, 128, 193, 225, 255};
        for (int b : between) {
            char one = (char) b;
            Kit.put(runs, "a" + one + "Aa" + one + "a").write(0, 1);
            due(21, "byte " + b + " parts words", Kit.written(runs) + " " + runs.counted(0) + runs.counted(4), "b" + one + "Aa" + one + "b 21");
        }
    }

    private static void byteZero() {
        SpellTurner x = Kit.withReforms(A_TO_B);
        String[] texts = {"\0", "\0a", "a\0", "a\0a", "\"\0\"", "\"a\0", "A\0"};
        for (String text : texts) {
            due(21, "a byte 0 in a text of " + text.length(), Kit.put(x, text).write(0, 1) + " " + Kit.put(x, text).write(0, 0), "-1 -1");
            due(24, "a byte 0 in a text of " + text.length(), Kit.put(x, text).mixed(0), NONE);
        }
        Kit.put(x, "a\0");
        x.end(1);
        due(21, "a byte 0 that end took", x.write(0, 1), 1);
    }

    private static void wordsAndNames() {
        due(21, "a capital first, last, within", by(A_TO_B, "Aa aA aAa A"), "Aa aA aAa A|0 0 0 0 4");
        due(21, "A and Z", by(A_TO_B, "aAa aZa"), "aAa aZa|0 0 0 0 2");
        due(21, "bytes beside A and Z are no letters", by(A_TO_B, "a@a a[a"), "b@b b[b|4 4 0 0 0");
        due(21, "a and z are letters", by("law 'zaz' to 'y';", "zaz za`az {zaz}"), "y za`az {y}|4 2 0 0 0");
        due(21, "first and last in a text", by(A_TO_B, "a--a"), "b--b|2 2 0 0 0");
        due(21, "no words", by(A_TO_B, "12 34!"), "12 34!|0 0 0 0 0");
        due(21, "digits part words", by(A_TO_B, "a1A1a"), "b1A1b|2 2 0 0 1");
    }

    private static void quotes() {
        due(21, "between two", by(A_TO_B, "a\"a\"a"), "b\"a\"b|2 2 0 0 0");
        due(21, "an empty quote", by(A_TO_B, "\"\"a"), "\"\"b|1 1 0 0 0");
        due(21, "without an end", by(A_TO_B, "a\"a a\na"), "b\"a a\na|1 1 0 0 0");
        due(21, "the last byte", by(A_TO_B, "a\""), "b\"|1 1 0 0 0");
        due(21, "the third opens again", by(A_TO_B, "a\"a\"a\"a A"), "b\"a\"b\"a A|2 2 0 0 0");
        due(21, "a quote parts a word", by("law 'aa' to 'b';", "a\"aa\"aa"), "a\"aa\"b|2 1 0 0 0");
        due(21, "names in a quote don't count", by(A_TO_B, "\"A a\" A"), "\"A a\" A|0 0 0 0 1");
        due(21, "a quote over lines", by(A_TO_B, "\"a\na\"\na"), "\"a\na\"\nb|1 1 0 0 0");
        due(21, "a tick is no quote", by(A_TO_B, "'a'"), "'b'|1 1 0 0 0");
    }

    private static void longWords() {
        String a24 = "a".repeat(24);
        due(21, "24 letters", by(A_TO_B, a24), "b".repeat(24) + "|1 1 0 0 0");
        due(23, "25 letters: left, and lost", by(A_TO_B, a24 + "a"), a24 + "a|1 0 0 1 0");
        due(23, "25 letters with a capital are a name", by(A_TO_B, a24 + "A"), a24 + "A|0 0 0 0 1");
        due(23, "25 letters in a quote", by(A_TO_B, "\"" + a24 + "a\""), "\"" + a24 + "a\"|0 0 0 0 0");
        due(23, "24 letters that become 25", by("law 'a' to 'aa' end;", a24), a24 + "|1 0 0 1 0");
        due(23, "25 letters, none between", within(a24 + "a"), "25 1 0 0 1 0");
        due(23, "24 letters, none between", within(a24), "24 1 0 0 0 0");
        SpellTurner x = Kit.withReforms(A_TO_B);
        due(21, "2000 letters", Kit.put(x, "a".repeat(2000)).write(0, 1) + " " + x.written(1999) + " " + Kit.counted(x), "2000 97 1 0 0 1 0");
    }

    /** What is answered and counted of a text that is written from a stage to the same. */
    private static String within(String text) {
        SpellTurner x = Kit.withReforms(A_TO_B);
        return Kit.put(x, text).write(1, 1) + " " + Kit.counted(x);
    }

    private static void firstForm() {
        String two = "part 'a'; part 'aa'; law 'aa' to 'c'; law 'a' to 'b' start;";
        due(21, "the first of two forms", by(two, "aa"), "bb|1 1 1 0 0");
        due(21, "a first form that is the word", by("part 'a'; part 'aa'; law 'aa' to 'c';", "aa"), "aa|1 0 1 0 0");
        due(21, "a lost word stays", by("law 'a' to '';", "a b"), "a b|2 0 0 1 0");
        due(21, "a word listed to nothing stays", by("list 'a' to '';", "a"), "a|1 0 0 1 0");
        due(21, "a kept word", by("keep 'a'; law 'a' to 'b';", "a aa"), "a bb|2 1 0 0 0");
        due(23, "a form that begins as the word is another", by("law 'b' to '';", "ab"), "a|1 1 0 0 0");
        due(23, "a form that goes on behind the word is another", by("law 'a' to 'ab';", "a"), "ab|1 1 0 0 0");
    }

    private static void mostBytes() {
        SpellTurner x = Kit.withReforms("law 'a' to 'bbbbb'; law 'n' to '';");
        String words = "a ".repeat(416);
        due(21, "2500 bytes", Kit.put(x, words + "1234").write(0, 1) + " " + x.written(0) + " " + x.written(2499) + " " + x.written(2500), "2500 98 52 -1");
        due(21, "2501 bytes, a byte behind the words", Kit.put(x, words + "12345").write(0, 1), NONE);
        due(21, "2501 bytes, a word at the end", Kit.put(x, words + "a").write(0, 1), NONE);
        due(21, "2499 bytes", Kit.put(x, words + "123").write(0, 1) + " " + x.written(2498) + " " + x.written(2499), "2499 51 -1");
        SpellTurner last = Kit.withReforms("law 'a' to 'bbbbb';");
        due(21, "2500 bytes, a word at the end", Kit.put(last, "a ".repeat(415) + "12345a").write(0, 1) + " " + last.written(2499), "2500 98");
        due(21, "2501 bytes, that word longer ahead", Kit.put(last, "a ".repeat(415) + "123456a").write(0, 1), NONE);
        due(21, "counted of the one that was turned", last.counted(0), 416);
    }

    private static void longestTape() {
        String reform = "law 'a' to 'bb'; law 'n' to '' after 'm';";
        SpellTurner x = Kit.withReforms(reform);
        due(21, "2000 bytes to 2500", Kit.put(x, "a..".repeat(500) + ".".repeat(500)).write(0, 1) + " " + x.written(2499), "2500 46");
        due(21, "2000 bytes to 2501", Kit.put(x, "a..".repeat(501) + ".".repeat(497)).write(0, 1), NONE);
        due(21, "1000 words", Kit.put(x, "b ".repeat(1000)).write(0, 1) + " " + Kit.counted(x), "2000 1000 0 0 0 0");
        x = Kit.withReforms(reform);
        due(21, "the last byte of a full tape is a word's", Kit.put(x, ".".repeat(1998) + "ba").write(0, 1) + " " + x.written(2000) + " " + Kit.counted(x), "2001 98 1 1 0 0 0");
        due(23, "a word at the end of a full tape that stays", Kit.put(x, ".".repeat(1976) + "b".repeat(24)).write(0, 1) + " " + Kit.counted(x), "2000 1 0 0 0 0");
        due(21, "too long for a while, but not in the end", Kit.put(x, "a..".repeat(501) + "mnnnn.".repeat(80) + ".".repeat(17)).write(0, 1), 2501 - 320);
    }

    private static void shorterTexts() {
        due(21, "shorter", by("law 'aaa' to 'b';", "aaa aaa"), "b b|2 2 0 0 0");
        SpellTurner x = Kit.withReforms(A_TO_B);
        Kit.put(x, "a a a a").write(0, 1);
        Kit.put(x, "a a").write(0, 1);
        due(22, "nothing of a longer text before", x.written(2) + " " + x.written(3), "98 -1");
    }

    private static void writtenEdges() {
        SpellTurner x = Kit.withReforms(A_TO_B);
        due(22, "ahead of any", x.written(0) + " " + x.written(-1), "-1 -1");
        Kit.put(x, "\0").write(0, 1);
        Kit.put(x, "a").write(1, 0);
        due(22, "refused ones are not told of", x.written(0), NONE);
        Kit.put(x, "\u00ff\u0080\u007f\u0001").write(0, 1);
        due(22, "0 .. 255", x.written(0) + " " + x.written(1) + " " + x.written(2) + " " + x.written(3), "255 128 127 1");
        due(22, "around its bytes", x.written(-1) + " " + x.written(4), "-1 -1");
        for (int far : Kit.FAR) {
            due(22, "far " + far, x.written(far), NONE);
        }
    }

    private static void countedEdges() {
        SpellTurner x = Kit.withReforms(A_TO_B);
        due(23, "ahead of any", Kit.counted(x), "-1 -1 -1 -1 -1");
        Kit.put(x, "\0").write(0, 1);
        Kit.put(x, "a").write(0, 2);
        due(23, "refused ones are not told of", Kit.counted(x), "-1 -1 -1 -1 -1");
        Kit.put(x, "a").write(0, 1);
        due(23, "what -1 and 5", x.counted(-1) + " " + x.counted(5), "-1 -1");
        for (int far : Kit.FAR) {
            due(23, "far " + far, x.counted(far), NONE);
        }
        Kit.put(x, "b").write(0, 1);
        due(23, "each text anew", Kit.counted(x), "1 0 0 0 0");
    }

    private static void countedEach() {
        String reform = "part 'a'; part 'aa'; law 'aa' to 'c'; law 'd' to 'e'; list 'n' to '';";
        due(23, "each", by(reform, "d n aa q \"d\" D " + "a".repeat(25)), "e n aa q \"d\" D " + "a".repeat(25) + "|5 1 1 2 1");
        due(23, "a word as often as it stands", by(reform, "d d d n n aa aa A A"), "e e e n n aa aa A A|7 3 2 2 2");
        SpellTurner x = Kit.withReforms("law 'a' to 'b';", "law 'b' to 'a';");
        due(23, "another word on the way, the same in the end", Kit.put(x, "a").write(0, 2) + " " + Kit.counted(x), "1 1 0 0 0 0");
        SpellTurner meet = Kit.withReforms("part 'a'; part 'aa'; law 'aa' to 'c';", "law 'c' to 'aa';");
        due(23, "a doubt on the way, none in the end", Kit.put(meet, "aa").write(0, 2) + " " + Kit.counted(meet), "2 1 0 0 0 0");
    }

    private static void refusedLeaveTheText() {
        SpellTurner x = Kit.withReforms("law 'a' to '" + "b".repeat(16) + "';");
        Kit.put(x, "c A").write(0, 1);
        due(21, "too long", Kit.put(x, "a ".repeat(150)).write(0, 1), NONE);
        due(22, "a text that is too long is not told of", Kit.written(x), "c A");
        due(23, "nor counted", Kit.counted(x), "1 0 0 0 1");
        due(21, "a byte 0", Kit.put(x, "a\0").write(0, 1), NONE);
        due(21, "no such stages", Kit.put(x, "a").write(0, 2), RANGE);
        due(22, "refused ones leave the text", Kit.written(x), "c A");
        due(23, "refused ones leave what was counted", Kit.counted(x), "1 0 0 0 1");
        Kit.put(x, "q q").mixed(1);
        Kit.put(x, "a").turn(0, 1);
        due(22, "other calls leave the text", Kit.written(x), "c A");
        due(23, "other calls leave what was counted", Kit.counted(x), "1 0 0 0 1");
    }

    private static SpellTurner mixedBook() {
        return Kit.learn(Kit.withReforms(A_TO_B), "a", "xa");
    }

    private static void prices() {
        SpellTurner x = mixedBook();
        String text = "a ".repeat(50) + "\n" + "b ".repeat(50);
        due(24, "price 0", Kit.put(x, text).mixed(0) + " " + Kit.lines(x), "0 01");
        due(24, "price 1", Kit.put(x, text).mixed(1) + " " + Kit.lines(x), "1 01");
        due(24, "price 49", Kit.put(x, text).mixed(49) + " " + Kit.lines(x), "49 01");
        due(24, "price 50, as dear as the words", Kit.put(x, text).mixed(50) + " " + Kit.lines(x), "50 00");
        due(24, "price 50, dearer words", Kit.put(x, text + "b").mixed(50) + " " + Kit.lines(x), "50 01");
        due(24, "prices -1 and 51", Kit.put(x, text).mixed(-1) + " " + Kit.put(x, text).mixed(51), "-2 -2");
        for (int far : Kit.FAR) {
            due(24, "price " + far, Kit.put(x, "a").mixed(far), RANGE);
        }
        due(24, "no such price ahead of a byte 0", Kit.put(x, "\0").mixed(51) + " " + Kit.put(x, "\0").mixed(-1), "-2 -2");
        due(24, "no such price ahead of 41 lines", Kit.put(x, "\n".repeat(40)).mixed(51), RANGE);
        due(25, "RANGE leaves the lines", Kit.lines(x), "01");
    }

    private static void lines() {
        SpellTurner x = mixedBook();
        due(24, "an empty text has a line", x.mixed(1) + " " + Kit.lines(x), "0 0");
        due(24, "a 10 alone parts two", Kit.put(x, "\n").mixed(1) + " " + Kit.lines(x), "0 00");
        due(24, "one line", Kit.put(x, "b").mixed(1) + " " + Kit.lines(x), "0 1");
        due(24, "a 10 at the end", Kit.put(x, "b\n").mixed(1) + " " + Kit.lines(x), "0 11");
        due(24, "40 lines", Kit.put(x, "\n".repeat(39) + "b").mixed(1) + " " + Kit.lines(x), "0 " + "1".repeat(40));
        due(25, "line 39 of 40", x.line(39) + " " + x.line(40), "1 -1");
        due(24, "41 lines", Kit.put(x, "\n".repeat(40)).mixed(1), NONE);
        due(24, "41 lines, the last with a word", Kit.put(x, "\n".repeat(40) + "b").mixed(1), NONE);
        due(24, "far more lines", Kit.put(x, "\n".repeat(2000)).mixed(1), NONE);
        due(24, "13 and 32 part none", Kit.put(x, "b\r b").mixed(1) + " " + Kit.lines(x), "0 1");
        due(24, "a 10 in a quote parts too", Kit.put(x, "\"b\n\" b").mixed(1) + " " + Kit.lines(x), "0 11");
        SpellTurner full = mixedBook();
        due(24, "a word at the end of a full tape", Kit.put(full, ".".repeat(1998) + "xb").mixed(1) + " " + Kit.lines(full), "0 1");
        due(24, "2000 bytes in one line", Kit.put(x, "q ".repeat(1000)).mixed(1) + " " + Kit.lines(x), "1000 0");
    }

    private static void lineEdges() {
        SpellTurner x = mixedBook();
        due(25, "ahead of any", x.line(0) + " " + x.line(-1), "-1 -1");
        Kit.put(x, "b").mixed(-1);
        Kit.put(x, "\0").mixed(0);
        due(25, "refused ones are not told of", x.line(0), NONE);
        Kit.put(x, "b\nb").mixed(1);
        due(25, "around the lines", x.line(-1) + " " + x.line(0) + " " + x.line(1) + " " + x.line(2), "-1 1 1 -1");
        for (int far : Kit.FAR) {
            due(25, "far " + far, x.line(far), NONE);
        }
        Kit.put(x, "a\n\0").mixed(1);
        Kit.put(x, "\n".repeat(40)).mixed(1);
        Kit.put(x, "a").mixed(51);
        due(25, "refused ones leave them", Kit.lines(x), "11");
        Kit.put(x, "a\na\na").write(0, 1);
        Kit.put(x, "").reform(9);
        due(25, "other calls leave them", Kit.lines(x), "11");
        Kit.put(x, "a").mixed(1);
        due(25, "fewer lines behind more", Kit.lines(x), "0");
    }

    private static int cost(SpellTurner x, String text) {
        return Kit.put(x, text).mixed(50);
    }

    private static void wordsThatCost() {
        SpellTurner x = Kit.learn(Kit.withReforms("part 'a'; part 'aa'; law 'aa' to 'c'; list 'n' to '';"), "aa", "n", "a".repeat(6), "b".repeat(24));
        due(24, "a word of the book", cost(x, "aa"), 0);
        due(24, "a word that is none", cost(x, "q"), 1);
        due(24, "each time that it stands", cost(x, "q q aa q"), 3);
        due(24, "each form of a doubt", cost(x, "aa c c aa q") + " " + x.line(0), "1 1");
        due(24, "a form at one stage alone", cost(x, "c") + " " + x.line(0), "0 1");
        due(24, "a lost word at stage 0 alone", cost(x, "n") + " " + x.line(0), "0 0");
        due(24, "names", cost(x, "Q Aq qA"), 0);
        due(24, "quotes", cost(x, "\"q q\nq\" \"q"), 0);
        due(24, "the 12th form", cost(x, "c ccaa") + " " + x.line(0), "0 1");
        due(24, "the 13th form is none", cost(x, "c ccc"), 1);
        due(24, "24 letters of the book", cost(x, "b".repeat(24)), 0);
        due(24, "25 letters", cost(x, "b".repeat(25)), 1);
        due(24, "25 letters with a capital", cost(x, "b".repeat(24) + "B"), 0);
        SpellTurner bare = new SpellTurner();
        due(24, "an empty book and no reforms", cost(bare, "a b\nc") + " " + Kit.lines(bare), "3 00");
    }

    private static void leastSum() {
        SpellTurner x = Kit.learn(Kit.withReforms(A_TO_B, "law 'b' to 'c';"), "a", "q");
        due(24, "a change that is dearer", Kit.put(x, "a\nb\na").mixed(1) + " " + Kit.lines(x), "1 000");
        due(24, "a change that is cheaper", Kit.put(x, "a\nb b b\na").mixed(1) + " " + Kit.lines(x), "2 010");
        due(24, "no change ahead of the first line", Kit.put(x, "c").mixed(50) + " " + Kit.lines(x), "0 2");
        due(24, "one change, however far", Kit.put(x, "a a a\nc c c").mixed(2) + " " + Kit.lines(x), "2 02");
        due(24, "two changes", Kit.put(x, "a a a\nb b b\nc c c").mixed(2) + " " + Kit.lines(x), "4 012");
        due(24, "free changes", Kit.put(x, "c\na\nb\nq").mixed(0) + " " + Kit.lines(x), "0 2010");
        due(24, "all changes at 50", Kit.put(x, ("a ".repeat(101) + "\n" + "b ".repeat(101) + "\n").repeat(4)).mixed(50), 7 * 50);
    }

    private static void leastRow() {
        SpellTurner x = Kit.learn(Kit.withReforms(A_TO_B, "law 'b' to 'c';"), "a", "q");
        due(25, "nothing to choose by", Kit.put(x, "q\n\nQ").mixed(1) + " " + Kit.lines(x), "0 000");
        due(25, "the least for the first line", Kit.put(x, "b\na").mixed(1) + " " + Kit.lines(x), "1 00");
        due(25, "the least, though it changes", Kit.put(x, "q\nc c").mixed(0) + " " + Kit.lines(x), "0 02");
        due(25, "the change as late as can be", Kit.put(x, "a a\nq\nq\nb b").mixed(1) + " " + Kit.lines(x), "1 0001");
        due(25, "the change back as early as can be", Kit.put(x, "c c\nq\nq\na a").mixed(1) + " " + Kit.lines(x), "1 2000");
        due(25, "no change that costs more", Kit.put(x, "q\nc\nq").mixed(1) + " " + Kit.lines(x), "0 222");
        due(25, "words that are nowhere", Kit.put(x, "zz\nzz zz").mixed(3) + " " + Kit.lines(x), "3 00");
    }

    private static void mostStages() {
        SpellTurner x = Kit.learn(Kit.withReforms(A_TO_B, "law 'b' to 'c';", "law 'c' to 'd';", "law 'd' to 'e';", "law 'e' to 'f';", "law 'f' to 'g';"), "a");
        due(24, "seven stages", Kit.put(x, "g\nf\ne\nd\nc\nb\na").mixed(0) + " " + Kit.lines(x), "0 6543210");
        due(24, "the last stage", Kit.put(x, "g g\nh").mixed(50) + " " + Kit.lines(x), "1 66");
        String forty = "g\nf\ne\nd\nc\nb\na\n".repeat(6);
        due(24, "40 lines at seven stages", Kit.put(x, forty.substring(0, 79)).mixed(0) + " " + Kit.lines(x), "0 " + "6543210".repeat(6).substring(0, 40));
    }
}
