/** Terms II with promises 8 to 11 at their boundaries: words turned by lists, parts and laws, and through stages. */
public final class TurnEdgesTest {
    private static final int NONE = SpellTurner.NONE;
    private static final int RANGE = SpellTurner.RANGE;
    private static final String A16 = "a".repeat(16);
    private static final String B24 = "b".repeat(24);

    private TurnEdgesTest() {
    }

    private static void due(int promise, String edge, Object got, Object want) {
        Kit.promise(promise, edge, got, want);
    }

    /** The forms of a word by one reform. */
    private static String by(String reform, String word) {
        return Kit.turned(Kit.withReforms(reform), word, 0, 1);
    }

    public static void main(String[] args) {
        wordLengths();
        wordBytes();
        turnStages();
        keptAndListed();
        partsOrItself();
        thirtyPartings();
        thirtiethParting();
        lawPlaces();
        startOfPart();
        endOfPart();
        afterAndBefore();
        noLettersOfAnotherWord();
        fortyLaws();
        longPart();
        longSum();
        nothingLeft();
        formsOnce();
        twelveForms();
        throughStages();
        formEdges();
        partingsNumbers();
        partingsRefused();
        partingEdges();
        partingOfTheLatest();
        Kit.covered(8, 11);
        Kit.close();
    }

    private static void wordLengths() {
        SpellTurner x = Kit.withReforms("part 'a'; law 'a' to 'b';");
        for (int length : new int[] {0, 1, 16, 17, 24, 25, 26, 40, 2000}) {
            boolean good = length >= 1 && length <= 24;
            String word = "a".repeat(length);
            due(8, length + " letters", Kit.turned(x, word, 0, 1), good ? "b".repeat(length) : "RANGE");
            due(8, length + " letters within a stage", Kit.turned(x, word, 1, 1), good ? word : "RANGE");
        }
        due(8, "24 letters without parts", by("law 'b' to 'c';", B24), "c".repeat(24));
    }

    private static void wordBytes() {
        SpellTurner x = Kit.withReforms("");
        due(8, "a and z", Kit.turned(x, "az", 0, 1), "az");
        int[] wrong = {0, 10, 32, 34, 39, 64, 65, 90, 91, 96, 123, 127, 128, 225, 250, 255};
        for (int b : wrong) {
            char one = (char) b;
            due(8, "byte " + b, Kit.put(x, one + "a").turn(0, 1) + " " + Kit.put(x, "a" + one + "a").turn(0, 1) + " "
                    + Kit.put(x, "a" + one).turn(0, 1) + " " + Kit.put(x, "" + one).turn(0, 0), "-2 -2 -2 -2");
            due(10, "byte " + b, Kit.put(x, "a" + one).partings(0), RANGE);
            due(12, "byte " + b, Kit.put(x, "a" + one).learn(), RANGE);
            due(14, "byte " + b, Kit.put(x, "a" + one).back(0), RANGE);
        }
        due(12, "no such word has come", x.count(1), 0);
    }

    private static void turnStages() {
        SpellTurner x = Kit.withReforms("law 'a' to 'b';", "law 'b' to 'c';");
        String[] want = {"a", "b", "c", "RANGE", "a", "a", "RANGE", "RANGE", "a"};
        for (int from = 0; from < 3; from++) {
            for (int to = 0; to < 3; to++) {
                due(8, "from " + from + " to " + to, Kit.turned(x, "a", from, to), want[3 * from + to]);
            }
        }
        int[][] wrong = {{-1, -1}, {-1, 0}, {0, -1}, {-1, 2}, {0, 3}, {2, 3}, {3, 3}, {3, 2},
            {Integer.MIN_VALUE, Integer.MAX_VALUE}, {0, Integer.MAX_VALUE}, {Integer.MIN_VALUE, 0}, {Integer.MAX_VALUE, Integer.MAX_VALUE}};
        for (int[] stages : wrong) {
            due(8, "from " + stages[0] + " to " + stages[1], Kit.put(x, "a").turn(stages[0], stages[1]), RANGE);
        }
        due(8, "RANGE left the latest", Kit.forms(x), "a");
    }

    private static void keptAndListed() {
        String reform = "keep 'ka'; list 'la' to 'aa'; list 'na' to ''; list 'sa' to 'sa'; keep '" + A16 + "'; list 'long' to '" + A16 + "'; part 'a'; part 'k'; law 'a' to 'b';";
        SpellTurner x = Kit.withReforms(reform);
        due(8, "a kept word stays, though it has parts", Kit.turned(x, "ka", 0, 1), "ka");
        due(8, "kept words alone, not what holds them", Kit.turned(x, "kaa", 0, 1) + " " + Kit.turned(x, "k", 0, 1), "kbb k");
        due(8, "16 letters kept", Kit.turned(x, A16, 0, 1), A16);
        due(8, "one letter more or less isn't", Kit.turned(x, A16 + "a", 0, 1) + " " + Kit.turned(x, "a".repeat(15), 0, 1), "b".repeat(17) + " " + "b".repeat(15));
        due(8, "a listed word as told, without laws", Kit.turned(x, "la", 0, 1), "aa");
        due(8, "listed to 16 letters", Kit.turned(x, "long", 0, 1), A16);
        due(8, "listed to nothing", Kit.put(x, "na").turn(0, 1) + " " + x.form(0, 0), "0 -1");
        due(8, "listed to itself", Kit.turned(x, "sa", 0, 1), "sa");
        due(8, "the word that a list gives is not listed itself", Kit.turned(x, "aa", 0, 1), "bb");
        due(8, "40 of keep and list", by(entries(40), "bn"), "x");
    }

    private static String entries(int count) {
        StringBuilder all = new StringBuilder();
        for (int n = 0; n < count; n++) {
            all.append("list'").append((char) ('a' + n / 26)).append((char) ('a' + n % 26)).append("'to'x';");
        }
        return all.toString();
    }

    private static void partsOrItself() {
        due(8, "a part any number of times", by("part 'ab'; law 'ab' to 'x';", "ab".repeat(12)), "x".repeat(12));
        due(8, "a part that is the word", by("part 'ab'; law 'a' to 'x' start;", "ab"), "xb");
        due(8, "parts that don't reach its end", by("part 'ab'; law 'a' to 'x' start;", "abab" + "a"), "xbaba");
        due(8, "parts that reach beyond its end", by("part 'abc'; law 'a' to 'x' start;", "abcab"), "xbcab");
        due(8, "parts that leave its beginning", by("part 'b'; law 'b' to 'x' end;", "abb"), "abx");
        due(8, "a part of 16 letters", by("part '" + A16 + "'; part 'b'; law 'a' to 'x' start;", A16 + "b"), "x" + "a".repeat(15) + "b");
        due(8, "of parts the 40th", by(parts40(), "bnbn"), "bxbx");
        due(8, "shorter first, whatever the order told", by("part 'aaa'; part 'a'; part 'aa'; law 'aaa' to 'z'; law 'aa' to 'y';", "aaa"), "aaa ay ya z");
    }

    private static String parts40() {
        StringBuilder all = new StringBuilder("law 'n' to 'x' end;");
        for (int n = 0; n < 40; n++) {
            all.append("part'").append((char) ('a' + n / 26)).append((char) ('a' + n % 26)).append("';");
        }
        return all.toString();
    }

    /** Words whose partings are counted: a run of a's has ways of its own, and an x parts runs. */
    private static void thirtyPartings() {
        String small = "part 'a'; part 'aa'; part 'x';";
        due(10, "28 of 4 * 7", Kit.put(Kit.withReforms(small + "part 'aaa';"), "aaaxaaaa").partings(0), 28);
        due(10, "29 with the whole word", Kit.put(Kit.withReforms(small + "part 'aaa'; part 'aaaxaaaa';"), "aaaxaaaa").partings(0), 29);
        String word = "aaxaaaxaaaa";
        String whole = "part '" + word + "';";
        SpellTurner thirty = Kit.withReforms(small);
        due(10, "30 of 2 * 3 * 5", Kit.put(thirty, word).partings(0), 30);
        due(11, "the 30th", thirty.parting(29, 0) + " " + thirty.parting(29, 1) + " " + thirty.parting(30, 0), "7 2 -1");
        SpellTurner more = Kit.withReforms(small + whole);
        due(10, "30 of 31", Kit.put(more, word).partings(0), 30);
        due(11, "the 30th of 31 and no more", more.parting(29, 0) + " " + more.parting(29, 1) + " " + more.parting(30, 0), "7 2 -1");
        due(10, "30 of 34", Kit.put(Kit.withReforms(small), "a".repeat(8)).partings(0), 30);
        due(10, "30 of far more", Kit.put(Kit.withReforms(small + "part 'aaa';"), "a".repeat(24)).partings(0), 30);
        String gone = "law 'a' to ''; law 'x' to 'y' start end;";
        due(8, "the 19th of 19 is looked at", by(small + "part 'aaxaaaxaaa';" + gone, "aaxaaaxaaa"), "yy xx");
        due(8, "the 31st of 31 is not looked at", by(small + whole + gone, word), "yy");
        due(8, "the 31st alone would give a form", by(small + whole + "law '" + word + "' to 'w'; law 'x' to 'xxxxxxxxxxxxxxxx' start end;", word), "");
    }

    /** Of the word's 30 partings each but the last has a part that grows too long. */
    private static void thirtiethParting() {
        String parts = "part 'a'; part 'aa'; part 'd'; part 'e'; part 'f'; part 'de'; part 'def';";
        String long16 = "'xxxxxxxxxxxxxxxx' start end;";
        String laws = "law 'a' to " + long16 + "law 'd' to " + long16 + "law 'de' to " + long16 + "law 'x' to 'xx';";
        SpellTurner x = Kit.withReforms(parts + laws);
        due(10, "30 of 2 * 3 * 5", Kit.put(x, "aadefaaaa").partings(0), 30);
        due(8, "the 30th of 30 is looked at", Kit.turned(x, "aadefaaaa", 0, 1), "aadefaaaa");
    }

    private static void lawPlaces() {
        due(8, "a whole word", by("law 'abc' to 'x';", "abc"), "x");
        due(8, "a word that is shorter by one", by("law 'abc' to 'x';", "ab") + " " + by("law 'abc' to 'x';", "bc"), "ab bc");
        due(8, "first and last place", by("law 'ab' to 'x';", "abcab"), "xcx");
        due(8, "side by side", by("law 'ab' to 'x';", "ababab"), "xxx");
        due(8, "from the left", by("law 'aa' to 'x';", "aaaaa"), "xxa");
        due(8, "what was written is not looked at", by("law 'a' to 'aa';", "aa") + " " + by("law 'ab' to 'a';", "abb"), "aaaa ab");
        due(8, "nor with what is behind it", by("law 'ab' to 'a'; law 'q' to 'r';", "abbb"), "abb");
        due(8, "the next law looks at all", by("law 'ab' to 'a'; law 'ab' to 'c';", "abb"), "c");
        due(8, "16 letters to 16", by("law '" + A16 + "' to '" + "c".repeat(16) + "';", "b" + A16 + "b"), "b" + "c".repeat(16) + "b");
        due(8, "to itself", by("law 'a' to 'a';", "banana"), "banana");
        due(8, "in no order but as told", by("law 'b' to 'c'; law 'a' to 'b';", "ab") + " " + by("law 'a' to 'b'; law 'b' to 'c';", "ab"), "bc cc");
    }

    private static void startOfPart() {
        due(8, "at the beginning alone", by("law 'a' to 'x' start;", "abaa"), "xbaa");
        due(8, "what was taken away leaves a beginning", by("law 'a' to '' start;", "aaab"), "b");
        due(8, "what was written ends it", by("law 'a' to 'b' start;", "aaa"), "baa");
        due(8, "of each part", by("part 'ab'; law 'a' to 'x' start;", "abab"), "xbxb");
        due(8, "as it is then: behind a law that took letters", by("law 'c' to ''; law 'a' to 'x' start;", "caca"), "xa");
        due(8, "nothing stands ahead of it", by("law 'b' to 'x' start after 'a';", "ab"), "ab");
    }

    private static void endOfPart() {
        due(8, "at the end alone", by("law 'a' to 'x' end;", "aabaa"), "aabax");
        due(8, "of each part", by("part 'ab'; law 'b' to 'x' end;", "abab"), "axax");
        due(8, "more letters than the part has", by("law 'ba' to 'x' end;", "a"), "a");
        due(8, "start and end: the whole", by("law 'ab' to 'x' start end;", "ab") + " " + by("law 'ab' to 'x' start end;", "abb")
                + " " + by("law 'ab' to 'x' start end;", "aab"), "x abb aab");
        due(8, "nothing stands behind it", by("law 'a' to 'x' end before 'b';", "ab"), "ab");
        due(8, "an overlap at the end goes to the left one", by("law 'aa' to 'x' end;", "aaa"), "ax");
    }

    private static void afterAndBefore() {
        due(8, "after as long as what is ahead", by("law 'a' to 'x' after 'bc';", "bca"), "bcx");
        due(8, "after longer by one", by("law 'a' to 'x' after 'abc';", "bca"), "bca");
        due(8, "just ahead", by("law 'a' to 'x' after 'b';", "bca"), "bca");
        due(8, "before as long as what is behind", by("law 'a' to 'x' before 'bc';", "abc"), "xbc");
        due(8, "before longer by one", by("law 'a' to 'x' before 'bcd';", "abc"), "abc");
        due(8, "just behind", by("law 'a' to 'x' before 'c';", "abc"), "abc");
        due(8, "what was written counts as ahead", by("law 'a' to 'b' after 'b';", "baaa"), "bbbb");
        due(8, "what it was doesn't", by("law 'a' to 'b' after 'a';", "aaaa"), "abab");
        due(8, "taken letters bring what is ahead nearer", by("law 'c' to '' after 'b';", "bcccd"), "bd");
        due(8, "behind is what is not written yet", by("law 'a' to 'b' before 'a';", "aaaa"), "bbba");
        due(8, "no letters of another part ahead", by("part 'b'; part 'a'; law 'a' to 'x' after 'b';", "ba"), "ba");
        due(8, "no letters of another part behind", by("part 'b'; part 'a'; law 'b' to 'x' before 'a';", "ba"), "ba");
        due(8, "16 letters ahead", by("law 'b' to 'x' after '" + A16 + "';", A16 + "b"), A16 + "x");
        due(8, "16 letters behind", by("law 'b' to 'x' before '" + A16 + "';", "b" + A16), "x" + A16);
        due(8, "all four", by("law 'a' to 'x' start end after 'b' before 'b';", "bab"), "bab");
        due(8, "ahead and behind at once", by("law 'a' to 'x' after 'b' before 'b';", "babab") + " " + by("law 'a' to 'x' after 'b' before 'b';", "baba"), "bxbxb bxba");
    }

    private static void noLettersOfAnotherWord() {
        SpellTurner first = Kit.withReforms("law 'abc' to 'x';");
        due(8, "the first letters of a law", Kit.turned(first, "qabc", 0, 1) + " " + Kit.turned(first, "qqqq", 0, 1) + " "
                + Kit.turned(first, "abcd", 0, 0) + " " + Kit.turned(first, "zabd", 0, 1) + " " + Kit.turned(first, "zab", 0, 1), "qx qqqq abcd zabd zab");
        SpellTurner whole = Kit.withReforms("law 'bc' to 'x' start;");
        due(8, "letters of a longer word before", Kit.turned(whole, "abc", 0, 1) + " " + Kit.turned(whole, "ab", 0, 1) + " "
                + Kit.turned(whole, "bbc", 0, 1) + " " + Kit.turned(whole, "b", 0, 1), "abc ab bbc b");
        SpellTurner last = Kit.withReforms("law 'bc' to 'x' after 'a'; law 'a' to 'y' before 'bd';");
        due(8, "behind the end for first letters", Kit.turned(last, "zzbc", 0, 1) + " " + Kit.turned(last, "zab", 0, 1), "zzbc zab");
        due(8, "behind the end for before", Kit.turned(last, "zzbd", 0, 1) + " " + Kit.turned(last, "zab", 0, 1), "zzbd zab");
    }

    private static void fortyLaws() {
        StringBuilder laws = new StringBuilder();
        for (int n = 0; n < 39; n++) {
            laws.append("law'q'to'r';");
        }
        due(8, "the 40th law", by(laws + "law 'a' to 'b';", "a"), "b");
        StringBuilder chain = new StringBuilder();
        for (int n = 0; n < 25; n++) {
            chain.append("law'").append((char) ('a' + n)).append("'to'").append((char) ('b' + n)).append("';");
        }
        due(8, "a row of laws", by(chain.toString(), "am"), "zz");
    }

    private static void longPart() {
        due(8, "24 letters behind a law", by("law 'b' to 'bb' end;", "b".repeat(23)), B24);
        due(8, "25 letters behind a law", by("law 'b' to 'bb' end;", B24), "");
        due(8, "25 letters, though the next law would take one", by("law 'b' to 'bb' end; law 'bb' to 'b' end;", B24), "");
        due(8, "24 letters, and the next law takes one", by("law 'b' to 'bb' end; law 'bb' to 'b' end;", "b".repeat(23)), "b".repeat(23));
        String grow = "law 'b' to '" + A16 + "' end; law 'a' to '';";
        due(8, "8 letters and 16", by(grow, "b".repeat(9)), "b".repeat(8));
        due(8, "9 letters and 16", by(grow, "b".repeat(10)), "");
        due(8, "a law that finds no place leaves 24", by("law 'x' to 'xxxx';", B24), B24);
        due(8, "as long as can be", by("law 'b' to '" + A16 + "';", B24), "");
        due(8, "of two partings the one that holds", by("part 'a'; part 'aa'; law 'aa' to '" + A16 + "'; law 'aa' to '" + "b".repeat(4) + "';", "aa"), "aa");
        due(8, "25 in one part of two", by("part 'c'; part 'd'; law 'c' to '" + A16 + "'; law 'a' to 'aaaaaaaaaa' start; law 'a' to '';", "cd"), "");
        due(8, "24 in one part of two", by("part 'c'; part 'd'; law 'c' to '" + A16 + "'; law 'a' to 'aaaaaaaaa' start; law 'a' to '';", "cd"), "d");
    }

    private static void longSum() {
        String reform = "part 'a'; part 'b'; part 'c'; law 'a' to 'xxxxxxxxxxxx'; law 'c' to '';";
        due(8, "24 of all parts", by(reform, "aa"), "x".repeat(24));
        due(8, "25 of all parts", by(reform, "aab") + by(reform, "baa") + by(reform, "aba"), "");
        due(8, "24 and a part that is nothing", by(reform, "aac"), "x".repeat(24));
        due(8, "25 ahead of a part that is nothing", by(reform, "aabc"), "");
        due(8, "of two partings the one that is no longer than 24", by("part 'a'; part 'aa'; part 'b'; law 'aa' to 'y'; law 'a' to 'xxxxxxxxxxxx';", "aab"), "yb");
    }

    private static void nothingLeft() {
        due(8, "no letter", by("law 'a' to '';", "a") + by("law 'a' to '';", "aaa"), "");
        due(8, "one letter", by("law 'a' to '';", "aba"), "b");
        due(8, "a part of two", by("part 'a'; part 'b'; law 'a' to '';", "ab") + " " + by("part 'a'; part 'b'; law 'a' to '';", "ba"), "b b");
        due(8, "all parts", by("part 'a'; part 'b'; law 'a' to ''; law 'b' to '';", "abba"), "");
        due(8, "laws find nothing in nothing", by("part 'a'; part 'b'; law 'a' to ''; law 'b' to 'a' start end;", "ab"), "a");
        due(8, "of two partings the one with letters", by("part 'a'; part 'aa'; law 'aa' to 'x'; law 'a' to '';", "aa"), "x");
        SpellTurner x = Kit.withReforms("law 'a' to '';");
        due(8, "LOST is 0 FORMS, no RANGE", Kit.put(x, "a").turn(0, 1) + " " + x.form(0, 0), "0 -1");
    }

    private static void formsOnce() {
        due(8, "two partings, one form", by("part 'a'; part 'aa'; law 'a' to 'b';", "aa"), "bb");
        due(8, "the first place counts", by("part 'a'; part 'aa'; part 'aaa'; law 'a' to 'x' start end; law 'aaa' to 'xxx'; law 'aa' to 'y';", "aaa"), "xxx xy yx");
        due(8, "a form that begins another", by("part 'a'; part 'aa'; law 'aa' to '';", "aaa"), "aaa a");
    }

    /** Two times two times three ways, all with forms of their own; the whole word is one way more. */
    private static void twelveForms() {
        String word = "aaxaaxaaa";
        String small = "part 'a'; part 'aa'; part 'x'; law '" + word + "' to 'w'; law 'aa' to 'c';";
        String twelve = "aaxaaxaaa aaxaaxac aaxaaxca aaxcxaaa aaxcxac aaxcxca cxaaxaaa cxaaxac cxaaxca cxcxaaa cxcxac cxcxca";
        SpellTurner x = Kit.withReforms(small);
        due(8, "12 forms", Kit.put(x, word).turn(0, 1) + " " + Kit.forms(x), "12 " + twelve);
        SpellTurner more = Kit.withReforms(small + "part '" + word + "';");
        due(8, "12 of 13 forms", Kit.put(more, word).turn(0, 1) + " " + Kit.forms(more), "12 " + twelve);
        due(9, "the 12th and no 13th", more.form(11, 0) + " " + more.form(12, 0), "99 -1");
        SpellTurner again = Kit.withReforms("part 'a'; part 'aa'; part 'x'; part '" + word + "'; law '" + word + "' to 'w'; law 'aa' to 'c'; law 'c' to 'aa' start end;");
        due(8, "forms that come again leave room for the 13th parting's", Kit.put(again, word).turn(0, 1) + " " + Kit.forms(again), "2 " + word + " w");
    }

    private static void throughStages() {
        String two = "part 'a'; part 'aa'; law 'aa' to 'c';";
        SpellTurner x = Kit.withReforms(two, "law 'c' to 'd'; law 'aa' to 'b';", "list 'b' to ''; law 'd' to 'b';");
        due(8, "one reform", Kit.turned(x, "aa", 0, 1), "aa c");
        due(8, "of each form, in order", Kit.turned(x, "aa", 0, 2), "b d");
        due(8, "a form that is lost leaves the other", Kit.turned(x, "aa", 0, 3), "b");
        due(8, "from the middle", Kit.turned(x, "aa", 1, 2) + " " + Kit.turned(x, "d", 2, 3), "b b");
        SpellTurner meet = Kit.withReforms(two, "law 'c' to 'aa';", two);
        due(8, "forms that meet count once", Kit.turned(meet, "aa", 0, 2), "aa");
        due(8, "and part again", Kit.turned(meet, "aa", 0, 3), "aa c");
        SpellTurner lost = Kit.withReforms("list 'a' to '';", "list 'a' to 'b';");
        due(8, "what is lost stays lost", Kit.put(lost, "a").turn(0, 2), 0);
        String step = "law 'a' to 'b' end; law 'b' to 'bb';";
        SpellTurner six = Kit.withReforms(step, step, step, step, step, step);
        due(8, "through six", Kit.turned(six, "a", 0, 3) + " " + Kit.turned(six, "a", 0, 4), "bbbbbbbb bbbbbbbbbbbbbbbb");
        due(8, "too long on the way", Kit.put(six, "a").turn(0, 5) + " " + Kit.put(six, "a").turn(0, 6), "0 0");
        SpellTurner many = Kit.withReforms("part 'a'; part 'aa'; law 'aa' to 'c';", "part 'a'; part 'c'; part 'aa'; law 'aa' to 'd';");
        due(8, "12 at the most on the way and at its end", Kit.put(many, "a".repeat(6)).turn(0, 1) + " " + Kit.put(many, "a".repeat(6)).turn(0, 2), "12 12");
        due(8, "the first form's forms come first", Kit.forms(many), "aaaaaa aaaad aaada aadaa aadd adaaa adad adda daaaa daad dada ddaa");
        SpellTurner cut = Kit.withReforms("part 'a'; part 'aa'; law 'aa' to 'c';", "law 'a' to '';");
        due(8, "the 13th form on the way is left out", Kit.turned(cut, "a".repeat(6), 0, 2), "c cc");
        due(8, "the 13th form would have one of its own", Kit.turned(cut, "ccc", 1, 2), "ccc");
    }

    private static void formEdges() {
        SpellTurner x = Kit.withReforms("part 'a'; part 'aa'; law 'aa' to 'c'; list 'n' to '';");
        due(9, "ahead of any", x.form(0, 0), NONE);
        Kit.put(x, "aa").turn(1, 0);
        due(9, "RANGE is not told of", x.form(0, 0), NONE);
        due(9, "two forms", Kit.put(x, "aa").turn(0, 1) + " " + x.form(0, 0) + " " + x.form(0, 1) + " " + x.form(1, 0), "2 97 97 99");
        due(9, "behind their letters", x.form(0, 2) + " " + x.form(1, 1), "-1 -1");
        due(9, "ahead of their letters", x.form(0, -1) + " " + x.form(1, -1), "-1 -1");
        due(9, "no such form", x.form(2, 0) + " " + x.form(-1, 0), "-1 -1");
        for (int far : Kit.FAR) {
            due(9, "far " + far, x.form(far, 0) + " " + x.form(0, far) + " " + x.form(far, far), "-1 -1 -1");
        }
        Kit.put(x, "a1").turn(0, 1);
        Kit.put(x, "a").turn(0, 2);
        due(9, "RANGE leaves them", Kit.forms(x), "aa c");
        Kit.put(x, "aa").partings(0);
        Kit.put(x, "b").learn();
        Kit.put(x, "b").back(1);
        Kit.put(x, "b b").write(0, 1);
        x.collisions(1);
        due(9, "other calls leave them", Kit.forms(x), "aa c");
        due(9, "one form behind two", Kit.put(x, "b").turn(0, 1) + " " + x.form(0, 0) + " " + x.form(0, 1) + " " + x.form(1, 0), "1 98 -1 -1");
        due(9, "no form behind one", Kit.put(x, "n").turn(0, 1) + " " + x.form(0, 0), "0 -1");
        Kit.put(x, B24).turn(0, 1);
        due(9, "24 letters", x.form(0, 23) + " " + x.form(0, 24), "98 -1");
    }

    private static void partingsNumbers() {
        SpellTurner x = Kit.withReforms("keep 'kk'; list 'll' to 'm'; list 'nn' to ''; part 'k'; part 'l'; part 'n'; part 'ab'; part 'aba'; part 'ba';", "");
        due(10, "kept, though it has parts", Kit.put(x, "kk").partings(0), -10);
        due(10, "listed, though it has parts", Kit.put(x, "ll").partings(0), -11);
        due(10, "listed to nothing", Kit.put(x, "nn").partings(0), -11);
        due(10, "one more letter is neither", Kit.put(x, "kkk").partings(0) + " " + Kit.put(x, "lll").partings(0), "1 1");
        due(10, "none", Kit.put(x, "a").partings(0) + " " + Kit.put(x, "abb").partings(0) + " " + Kit.put(x, "bab").partings(0), "0 0 0");
        due(10, "one", Kit.put(x, "ab").partings(0) + " " + Kit.put(x, "k").partings(0), "1 1");
        due(10, "two", Kit.put(x, "ababa").partings(0) + " " + Kit.partings(x), "2 2+3 3+2");
        due(10, "no parts at all", Kit.put(x, "ab").partings(1) + " " + Kit.put(x, "kk").partings(1), "0 0");
        due(10, "a word of 24 letters", Kit.put(x, "k".repeat(24)).partings(0) + " " + x.parting(0, 0), "1 24");
        due(10, "laws don't count", Kit.put(Kit.withReforms("part 'a'; law 'a' to '';"), "aa").partings(0), 1);
    }

    private static void partingsRefused() {
        SpellTurner x = Kit.withReforms("part 'a';", "part 'b';");
        due(10, "the first and the last reform", Kit.put(x, "aa").partings(0) + " " + Kit.put(x, "b").partings(1), "1 1");
        due(10, "reforms -1 and 2", Kit.put(x, "a").partings(-1) + " " + Kit.put(x, "a").partings(2), "-2 -2");
        for (int far : Kit.FAR) {
            due(10, "reform " + far, Kit.put(x, "a").partings(far), RANGE);
        }
        due(10, "no letters", x.partings(0), RANGE);
        due(10, "24 and 25 letters", Kit.put(x, "a".repeat(25)).partings(0) + " " + Kit.put(x, "a".repeat(24)).partings(0), "-2 1");
    }

    private static void partingEdges() {
        SpellTurner x = Kit.withReforms("part 'a'; part 'aa'; part 'aaa';");
        due(11, "ahead of any", x.parting(0, 0) + " " + x.parting(0, 1), "-1 -1");
        Kit.put(x, "aaa").partings(0);
        due(11, "in order, the shorter first", Kit.partings(x), "1+1+1 1+2 2+1 3");
        due(11, "partings 3 and 4", x.parting(3, 0) + " " + x.parting(4, 0) + " " + x.parting(4, 1), "1 -1 -1");
        due(11, "parting -1", x.parting(-1, 0) + " " + x.parting(-1, 1), "-1 -1");
        due(11, "behind the last part", x.parting(0, 3) + " " + x.parting(0, 4) + " " + x.parting(3, 1) + " " + x.parting(3, 2), "1 -1 3 -1");
        due(11, "what -1", x.parting(0, -1), NONE);
        for (int far : Kit.FAR) {
            due(11, "far " + far, x.parting(far, 0) + " " + x.parting(0, far) + " " + x.parting(far, far), "-1 -1 -1");
        }
        Kit.put(x, "a".repeat(24)).partings(0);
        due(11, "24 parts", x.parting(0, 0) + " " + x.parting(0, 1) + " " + x.parting(0, 24) + " " + x.parting(0, 25), "24 1 1 -1");
        SpellTurner wide = Kit.withReforms("part '" + A16 + "'; part 'b';");
        Kit.put(wide, A16 + "b").partings(0);
        due(11, "a part of 16 letters", wide.parting(0, 0) + " " + wide.parting(0, 1) + " " + wide.parting(0, 2), "2 16 1");
    }

    private static void partingOfTheLatest() {
        SpellTurner x = Kit.withReforms("keep 'k'; list 'l' to 'm'; part 'a'; part 'aa';", "part 'b';");
        Kit.put(x, "aa").partings(0);
        Kit.put(x, "aaa").partings(2);
        Kit.put(x, "").partings(0);
        due(11, "RANGE leaves them", Kit.partings(x), "1+1 2");
        Kit.put(x, "k").partings(0);
        Kit.put(x, "l").partings(0);
        due(11, "kept and listed tell no number of partings", Kit.partings(x), "1+1 2");
        Kit.put(x, "aaa").turn(0, 1);
        Kit.put(x, "aaa aaa").write(0, 1);
        Kit.put(x, "part 'aa';").reform(9);
        due(11, "other calls leave them", Kit.partings(x), "1+1 2");
        Kit.put(x, "bb").partings(1);
        due(11, "of another reform", Kit.partings(x), "1+1");
        due(11, "0 is a number", Kit.put(x, "q").partings(0) + " " + x.parting(0, 0), "0 -1");
    }
}
