/** Terms III with promises 12 to 20 at their boundaries: the book, words found back, collisions, rhymes and laws in use. */
public final class BookEdgesTest {
    private static final int NONE = SpellTurner.NONE;
    private static final int RANGE = SpellTurner.RANGE;
    private static final int FULL = SpellTurner.FULL;
    private static final String TWO_WAYS = "part 'a'; part 'aa'; law 'aa' to 'c';";

    private BookEdgesTest() {
    }

    private static void due(int promise, String edge, Object got, Object want) {
        Kit.promise(promise, edge, got, want);
    }

    public static void main(String[] args) {
        wordsThatCanCome();
        fullBook();
        wordEdges();
        backStages();
        backOwners();
        backOfAll();
        oldEdges();
        collisionStages();
        collisionPairs();
        twoHundredCollisions();
        allCollide();
        longestForms();
        fullBookAtTwoStages();
        fullBookAtTheLastStage();
        collisionOfTheLatest();
        rhymeLetters();
        rhymesLost();
        rhymeStages();
        tellEdges();
        tellForms();
        usesRange();
        usesOfFortyLaws();
        usesOfForms();
        usesOfPartings();
        usesUpToTooLong();
        bookAndReformsInAnyOrder();
        Kit.covered(12, 20);
        Kit.close();
    }

    /** Words of seven letters a and b, all of which a law 'a' to 'b' makes one. */
    private static String binary(int n) {
        StringBuilder word = new StringBuilder();
        for (int bit = 0; bit < 7; bit++) {
            word.append((n >> bit & 1) == 0 ? 'a' : 'b');
        }
        return word.toString();
    }

    private static SpellTurner binaryBook(int count) {
        SpellTurner x = Kit.withReforms("law 'a' to 'b';");
        for (int n = 0; n < count; n++) {
            Kit.learn(x, binary(n));
        }
        return x;
    }

    private static void wordsThatCanCome() {
        SpellTurner x = new SpellTurner();
        due(12, "no letters", x.learn(), RANGE);
        due(12, "one letter", Kit.put(x, "a").learn(), 0);
        due(12, "24 letters", Kit.put(x, "a".repeat(24)).learn(), 1);
        due(12, "25 letters", Kit.put(x, "a".repeat(25)).learn(), RANGE);
        due(12, "40 letters", Kit.put(x, "a".repeat(40)).learn(), RANGE);
        due(12, "RANGE took no number", x.count(1), 2);
        due(12, "a word that is there", Kit.put(x, "a").learn() + " " + Kit.put(x, "a".repeat(24)).learn() + " " + x.count(1), "0 1 2");
        due(12, "a word that begins one that is there", Kit.put(x, "a".repeat(23)).learn() + " " + x.count(1), "2 3");
    }

    private static void fullBook() {
        SpellTurner x = new SpellTurner();
        for (int n = 0; n < 100; n++) {
            due(12, "word " + n, Kit.put(x, binary(n)).learn(), n);
        }
        due(12, "the 101st", Kit.put(x, binary(100)).learn(), FULL);
        due(12, "it did not come", x.count(1) + " " + x.word(100, 0), "100 -1");
        due(12, "those that are there in a full book", Kit.put(x, binary(0)).learn() + " " + Kit.put(x, binary(99)).learn(), "0 99");
        due(12, "no such word ahead of FULL", x.learn() + " " + Kit.put(x, "A").learn(), "-2 -2");
        due(13, "the last word", Kit.spell(i -> x.word(99, i)), binary(99));
        due(26, "a full book", x.count(1), 100);
    }

    private static void wordEdges() {
        SpellTurner x = new SpellTurner();
        due(13, "an empty book", x.word(0, 0), NONE);
        Kit.learn(x, "az", "b".repeat(24));
        due(13, "its letters", x.word(0, 0) + " " + x.word(0, 1), "97 122");
        due(13, "around its letters", x.word(0, -1) + " " + x.word(0, 2), "-1 -1");
        due(13, "24 letters", x.word(1, 23) + " " + x.word(1, 24), "98 -1");
        due(13, "around the words", x.word(-1, 0) + " " + x.word(2, 0), "-1 -1");
        for (int far : Kit.FAR) {
            due(13, "far " + far, x.word(far, 0) + " " + x.word(0, far) + " " + x.word(far, far), "-1 -1 -1");
        }
    }

    private static void backStages() {
        SpellTurner x = Kit.learn(Kit.withReforms("law 'a' to 'b';", "law 'b' to 'c';"), "a", "b", "c");
        due(14, "at 0", Kit.put(x, "b").back(0) + " " + x.old(0), "1 1");
        due(14, "at 1", Kit.put(x, "b").back(1) + " " + x.old(0) + x.old(1), "2 01");
        due(14, "at 2", Kit.put(x, "c").back(2) + " " + x.old(0) + x.old(1) + x.old(2), "3 012");
        due(14, "stages -1 and 3", Kit.put(x, "a").back(-1) + " " + Kit.put(x, "a").back(3), "-2 -2");
        for (int far : Kit.FAR) {
            due(14, "stage " + far, Kit.put(x, "a").back(far), RANGE);
        }
        due(14, "no letters", x.back(0), RANGE);
        due(14, "24 and 25 letters", Kit.put(x, "a".repeat(24)).back(0) + " " + Kit.put(x, "a".repeat(25)).back(0), "0 -2");
        due(14, "an empty book", Kit.put(Kit.withReforms(""), "a").back(1), 0);
    }

    private static void backOwners() {
        SpellTurner x = Kit.learn(Kit.withReforms(TWO_WAYS + "list 'n' to ''; keep 'k';"), "aa", "c", "n", "k", "a".repeat(6));
        due(14, "a doubt by each of its forms", Kit.put(x, "aa").back(1) + " " + x.old(0), "1 0");
        due(14, "in common with another", Kit.put(x, "c").back(1) + " " + x.old(0) + x.old(1), "2 01");
        due(14, "a lost word by none", Kit.put(x, "n").back(1), 0);
        due(14, "a kept word", Kit.put(x, "k").back(1) + " " + x.old(0), "1 3");
        due(14, "the 12th form", Kit.put(x, "ccaa").back(1) + " " + x.old(0), "1 4");
        due(14, "the 13th form is left out", Kit.put(x, "ccc").back(1), 0);
        due(14, "the whole word, not its beginning", Kit.put(x, "a").back(1) + " " + Kit.put(x, "aaa").back(1), "0 0");
        due(14, "24 letters", Kit.put(Kit.learn(Kit.withReforms("law 'a' to 'aa' end;"), "a".repeat(23)), "a".repeat(24)).back(1), 1);
    }

    private static void backOfAll() {
        SpellTurner x = binaryBook(100);
        due(14, "all 100 words", Kit.put(x, "bbbbbbb").back(1), 100);
        due(15, "the first and the last of 100", x.old(0) + " " + x.old(99) + " " + x.old(100), "0 99 -1");
    }

    private static void oldEdges() {
        SpellTurner x = Kit.learn(Kit.withReforms("law 'a' to 'b';"), "x", "b", "a");
        due(15, "ahead of any", x.old(0), NONE);
        Kit.put(x, "b").back(2);
        due(15, "RANGE is not told of", x.old(0), NONE);
        Kit.put(x, "b").back(1);
        due(15, "two, by number", x.old(0) + " " + x.old(1) + " " + x.old(2) + " " + x.old(-1), "1 2 -1 -1");
        for (int far : Kit.FAR) {
            due(15, "far " + far, x.old(far), NONE);
        }
        Kit.put(x, "x").back(-1);
        Kit.put(x, "X").back(0);
        due(15, "RANGE leaves them", x.old(0) + " " + x.old(1), "1 2");
        x.collisions(1);
        Kit.put(x, "x").turn(0, 1);
        Kit.learn(x, "q");
        due(15, "other calls leave them", x.old(0) + " " + x.old(1), "1 2");
        due(15, "one behind two", Kit.put(x, "x").back(1) + " " + x.old(0) + " " + x.old(1), "1 0 -1");
        due(15, "none behind one", Kit.put(x, "a").back(1) + " " + x.old(0), "0 -1");
    }

    private static void collisionStages() {
        SpellTurner x = Kit.learn(Kit.withReforms("law 'a' to 'b';", "law 'b' to 'c';"), "a", "b", "c");
        due(16, "at each stage", x.collisions(0) + " " + x.collisions(1) + " " + x.collisions(2), "0 1 3");
        due(16, "stages -1 and 3", x.collisions(-1) + " " + x.collisions(3), "-2 -2");
        for (int far : Kit.FAR) {
            due(16, "stage " + far, x.collisions(far), RANGE);
        }
        SpellTurner bare = Kit.withReforms("");
        due(16, "an empty book", bare.collisions(0) + " " + bare.collisions(1), "0 0");
        Kit.learn(bare, "a");
        due(16, "one word", bare.collisions(1), 0);
    }

    private static void collisionPairs() {
        SpellTurner x = Kit.learn(Kit.withReforms("law 'a' to 'b';"), "b", "ca", "a", "cb");
        due(16, "two pairs", x.collisions(1), 2);
        due(17, "the lesser word first", x.collision(0) + " " + x.collision(1) + " " + x.collision(2), "2 1003 -1");
        due(17, "i below 0", x.collision(-1), NONE);
        for (int far : Kit.FAR) {
            due(17, "far " + far, x.collision(far), NONE);
        }
        String same = "part 'a'; part 'aa'; part 'e'; law 'e' to ''; law 'aa' to 'c';";
        SpellTurner twice = Kit.learn(Kit.withReforms(same), "aa", "eaa", "aaaa");
        due(16, "two forms in common are one collision", twice.collisions(1) + " " + twice.collision(0) + " " + twice.collision(1), "1 1 -1");
        SpellTurner lost = Kit.learn(Kit.withReforms("law 'a' to '';"), "a", "aa");
        due(16, "lost words have no form in common", lost.collisions(1), 0);
        SpellTurner left = Kit.learn(Kit.withReforms(TWO_WAYS + "keep 'ccaa';"), "a".repeat(6), "ccc", "ccaa");
        due(16, "the 12th form counts, the 13th doesn't", left.collisions(1) + " " + left.collision(0) + " " + left.collision(1), "1 2 -1");
    }

    /** Twenty words have 190 pairs, five more of their own 10, and two of their own one more. */
    private static void twoHundredCollisions() {
        SpellTurner x = binaryBook(20);
        Kit.learn(x, "xaaa", "xaab", "xaba", "xabb", "xbbb");
        due(16, "200", x.collisions(1), 200);
        due(17, "the last of 200", x.collision(198) + " " + x.collision(199) + " " + x.collision(200), "22024 23024 -1");
        Kit.learn(x, "ya", "yb");
        due(16, "201", x.collisions(1), 201);
        due(17, "of 201 no more than 200 are told", x.collision(199) + " " + x.collision(200), "23024 -1");
    }

    private static void allCollide() {
        SpellTurner x = binaryBook(100);
        due(16, "all pairs of 100", x.collisions(1), 4950);
        due(17, "1000 times the lesser and the other", x.collision(0) + " " + x.collision(98) + " " + x.collision(99) + " " + x.collision(199), "1 99 1002 2005");
        due(17, "no more than 200 are told", x.collision(200) + " " + x.collision(4949), "-1 -1");
        due(16, "none at stage 0", x.collisions(0) + " " + x.collision(0), "0 -1");
    }

    /** Words and forms of 24 letters, up to the last of them. */
    private static void longestForms() {
        String a23 = "a".repeat(23);
        SpellTurner x = Kit.learn(Kit.withReforms("law 'z' to 'y' end;", "part 'a'; part 'y'; law 'y' to 'x' start;"), a23 + "z", a23 + "y", "b" + a23, "q".repeat(20) + "aaay");
        due(16, "24 letters in common", x.collisions(1) + " " + x.collision(0), "1 1");
        due(16, "24 letters in common behind two reforms", x.collisions(2) + " " + x.collision(0), "1 1");
        due(14, "24 letters made of 24 parts", Kit.put(x, a23 + "x").back(2) + " " + x.old(0) + x.old(1), "2 01");
        due(20, "24 letters made of 24 parts", x.uses(1, 0), 2);
        due(19, "24 letters that stay", x.tell(1, 2) + " " + x.tell(2, 2), "3 2");
        SpellTurner rhyme = Kit.learn(Kit.withReforms("law 'z' to 'y' end;", "law 'y' to 'x' end;"), a23 + "z", "b" + "a".repeat(22) + "z", "aaz");
        due(18, "24 letters that still rhyme", rhyme.rhymes(1) + " " + rhyme.rhymes(2), "0 0");
        SpellTurner full = Kit.withReforms("");
        for (int n = 0; n < 99; n++) {
            Kit.learn(full, binary(n));
        }
        Kit.learn(full, a23 + "z");
        due(19, "24 letters as the 100th word", full.tell(1, 2), 100);
        due(13, "24 letters as the 100th word", full.word(99, 23) + " " + full.word(99, 24), "122 -1");
        due(12, "24 letters as the 100th word are known", Kit.put(full, a23 + "z").learn(), 99);
    }

    /** Words of a full book are still told apart from forms at the next stage. */
    private static void fullBookAtTwoStages() {
        SpellTurner x = Kit.withReforms("list '" + binary(0) + "' to '" + binary(5) + "';");
        for (int n = 0; n < 100; n++) {
            Kit.learn(x, binary(n));
        }
        due(16, "a full book at stage 1", x.collisions(1) + " " + x.collision(0), "1 5");
        due(16, "a full book at stage 0", x.collisions(0) + " " + x.collision(0), "0 -1");
        due(14, "found back in a full book", Kit.put(x, binary(5)).back(0) + " " + x.old(0) + " " + x.old(1), "1 5 -1");
        due(18, "rhymes of a full book", x.rhymes(0), 0);
        due(19, "a full book told", x.tell(0, 2) + " " + x.tell(1, 2), "100 99");
        due(24, "no form of stage 1 in a full book at stage 0", Kit.put(x, "q " + binary(0)).mixed(0) + " " + x.line(0), "1 0");
    }

    private static void fullBookAtTheLastStage() {
        String rest = "law 'q' to 'r';";
        SpellTurner x = Kit.withReforms(rest, rest, rest, rest, rest, "law 'a' to 'b';");
        for (int n = 0; n < 100; n++) {
            Kit.learn(x, binary(n));
        }
        due(14, "a full book behind six reforms", Kit.put(x, "bbbbbbb").back(6) + " " + Kit.put(x, "bbbbbbb").back(5), "100 0");
        due(16, "a full book behind six reforms", x.collisions(6) + " " + x.collisions(5), "4950 0");
        due(18, "a full book behind six reforms", x.rhymes(6), 0);
        due(19, "a full book behind six reforms", x.tell(6, 2) + " " + x.tell(5, 2), "0 100");
        due(20, "a full book and six reforms", x.uses(5, 0) + " " + x.uses(4, 0), "100 0");
        due(24, "a full book behind six reforms", Kit.put(x, "bbbbbbb\nq").mixed(1) + " " + Kit.lines(x), "1 66");
    }

    private static void collisionOfTheLatest() {
        SpellTurner x = Kit.learn(Kit.withReforms("law 'a' to 'b';"), "a", "b");
        due(17, "ahead of any", x.collision(0), NONE);
        x.collisions(1);
        Kit.put(x, "b").back(1);
        x.rhymes(1);
        x.tell(1, 0);
        Kit.learn(x, "q");
        due(17, "other calls leave them", x.collision(0) + " " + x.collision(1), "1 -1");
        x.collisions(2);
        due(17, "a latest one that is RANGE has none", x.collision(0), NONE);
        x.collisions(1);
        x.collisions(0);
        due(17, "a latest one with none", x.collision(0), NONE);
    }

    private static void rhymeLetters() {
        String reform = "list 'xabc' to 'x'; list 'abc' to 'a'; list 'bc' to 'b'; list 'zbc' to 'z';";
        SpellTurner three = Kit.learn(Kit.withReforms(reform), "xabc", "abc");
        due(18, "a word of just three letters", three.rhymes(1), 1);
        SpellTurner two = Kit.learn(Kit.withReforms(reform), "xabc", "bc", "zbc");
        due(18, "two letters alike are none", two.rhymes(1), 0);
        String ahead = "q".repeat(23) + "a";
        SpellTurner beside = Kit.learn(Kit.withReforms(reform), ahead, "bc", "xabc", "bcd", ahead.substring(1) + "b", "c");
        due(18, "two letters behind a word that ends with the third", beside.rhymes(1), 0);
        SpellTurner behind = Kit.learn(Kit.withReforms(reform), "xabc", ahead, "bc");
        due(18, "two letters as the other word", behind.rhymes(1), 0);
        SpellTurner whole = Kit.learn(Kit.withReforms("list 'abcd' to 'x';"), "abcd", "bcd", "abce");
        due(18, "the last three, not the first", whole.rhymes(1), 1);
    }

    private static void rhymesLost() {
        String[] words = {"xabc", "yabc"};
        due(18, "forms that rhyme", Kit.learn(Kit.withReforms("law 'c' to 'd';"), words).rhymes(1), 0);
        due(18, "forms with one letter of three changed", Kit.learn(Kit.withReforms("list 'xabc' to 'xabd';"), words).rhymes(1)
                + " " + Kit.learn(Kit.withReforms("list 'xabc' to 'xebc';"), words).rhymes(1)
                + " " + Kit.learn(Kit.withReforms("list 'xabc' to 'xaec';"), words).rhymes(1), "1 1 1");
        due(18, "a fourth letter doesn't count", Kit.learn(Kit.withReforms("list 'xabc' to 'qqqabc';"), words).rhymes(1), 0);
        due(18, "forms of three letters", Kit.learn(Kit.withReforms("law 'x' to ''; law 'y' to '';"), words).rhymes(1), 0);
        due(18, "forms of two letters", Kit.learn(Kit.withReforms("law 'xa' to ''; law 'ya' to '';"), words).rhymes(1), 1);
        due(18, "one lost", Kit.learn(Kit.withReforms("list 'xabc' to '';"), words).rhymes(1), 1);
        due(18, "both lost", Kit.learn(Kit.withReforms("list 'xabc' to ''; list 'yabc' to '';"), words).rhymes(1), 1);
        due(18, "two words that never rhymed", Kit.learn(Kit.withReforms("list 'xabc' to ''; list 'yabd' to '';"), "xabc", "yabd").rhymes(1), 0);
        SpellTurner doubt = Kit.learn(Kit.withReforms("part 'aab'; part 'aa'; part 'b'; law 'aab' to 'xyz'; law 'daab' to 'dxyz';"), "aab", "daab");
        due(18, "one of the forms is enough", doubt.rhymes(1), 0);
        due(18, "all pairs of 100", Kit.learn(hundredRhymes(), "q").rhymes(1), 4950);
    }

    /** A hundred words on the same three letters, which the law takes from them. */
    private static SpellTurner hundredRhymes() {
        SpellTurner x = Kit.withReforms("law 'xyz' to '' end;");
        for (int n = 0; n < 100; n++) {
            Kit.learn(x, "" + (char) ('a' + n / 10) + (char) ('a' + n % 10) + "xyz");
        }
        return x;
    }

    private static void rhymeStages() {
        SpellTurner x = Kit.learn(Kit.withReforms("list 'xabc' to 'x';", "list 'x' to 'abc';"), "xabc", "yabc");
        due(18, "at each stage", x.rhymes(0) + " " + x.rhymes(1) + " " + x.rhymes(2), "0 1 0");
        due(18, "stages -1 and 3", x.rhymes(-1) + " " + x.rhymes(3), "-2 -2");
        for (int far : Kit.FAR) {
            due(18, "stage " + far, x.rhymes(far), RANGE);
        }
        due(18, "an empty book", Kit.withReforms("").rhymes(1), 0);
    }

    private static void tellEdges() {
        SpellTurner x = Kit.learn(Kit.withReforms("law 'a' to 'b';"), "b");
        due(19, "stages 0 and 1", x.tell(0, 2) + " " + x.tell(1, 2), "1 1");
        due(19, "stages -1 and 2", x.tell(-1, 2) + " " + x.tell(2, 2), "-2 -2");
        due(19, "what -1 and 3", x.tell(0, -1) + " " + x.tell(0, 3) + " " + x.tell(1, -1) + " " + x.tell(1, 3), "-2 -2 -2 -2");
        for (int far : Kit.FAR) {
            due(19, "far " + far, x.tell(far, 0) + " " + x.tell(0, far) + " " + x.tell(far, far), "-2 -2 -2");
        }
        SpellTurner bare = Kit.withReforms("");
        due(19, "an empty book", bare.tell(1, 0) + " " + bare.tell(1, 1) + " " + bare.tell(1, 2), "0 0 0");
        SpellTurner full = binaryBook(100);
        due(19, "all 100 words", full.tell(0, 2) + " " + full.tell(1, 2) + " " + full.tell(1, 0), "100 0 0");
    }

    private static String told(String reform, String word) {
        SpellTurner x = Kit.learn(Kit.withReforms(reform), word);
        return x.tell(1, 0) + "" + x.tell(1, 1) + x.tell(1, 2);
    }

    private static void tellForms() {
        due(19, "no form", told("list 'a' to '';", "a"), "010");
        due(19, "one form, another word", told("law 'a' to 'b';", "a"), "000");
        due(19, "one form, the word itself", told("law 'b' to 'c';", "a"), "001");
        due(19, "kept", told("keep 'a'; law 'a' to 'b';", "a"), "001");
        due(19, "listed to itself", told("list 'a' to 'a'; law 'a' to 'b';", "a"), "001");
        due(19, "two forms, the word itself one of them", told(TWO_WAYS, "aa"), "100");
        due(19, "two partings, one form", told("part 'a'; part 'aa';", "aa"), "001");
        due(19, "twelve forms and more", told(TWO_WAYS, "a".repeat(6)), "100");
        due(19, "one form that begins as the word", told("law 'b' to '';", "ab") + " " + told("law 'a' to 'ab';", "a"), "000 000");
    }

    private static void usesRange() {
        SpellTurner x = Kit.learn(Kit.withReforms("law 'a' to 'b'; law 'c' to 'd';", "", "law 'b' to 'a';"), "a");
        due(20, "each law", x.uses(0, 0) + " " + x.uses(0, 1) + " " + x.uses(2, 0), "1 0 1");
        due(20, "laws -1 and 2", x.uses(0, -1) + " " + x.uses(0, 2), "-2 -2");
        due(20, "a reform without laws", x.uses(1, 0) + " " + x.uses(1, -1), "-2 -2");
        due(20, "reforms -1 and 3", x.uses(-1, 0) + " " + x.uses(3, 0), "-2 -2");
        for (int far : Kit.FAR) {
            due(20, "far " + far, x.uses(far, 0) + " " + x.uses(0, far) + " " + x.uses(far, far), "-2 -2 -2");
        }
        due(20, "an empty book", Kit.withReforms("law 'a' to 'b';").uses(0, 0), 0);
        SpellTurner all = binaryBook(100);
        due(20, "all of 100 words", all.uses(0, 0), 100);
    }

    private static void usesOfFortyLaws() {
        StringBuilder laws = new StringBuilder();
        for (int n = 0; n < 40; n++) {
            boolean finds = n % 8 == 7 || n == 32;
            laws.append(finds ? "law'a'to'a';" : "law'q'to'r';");
        }
        SpellTurner x = Kit.learn(Kit.withReforms(laws.toString()), "a", "ba", "b");
        for (int l = 0; l < 40; l++) {
            due(20, "law " + l, x.uses(0, l), l % 8 == 7 || l == 32 ? 2 : 0);
        }
        due(20, "law 40", x.uses(0, 40), RANGE);
    }

    private static void usesOfForms() {
        SpellTurner x = Kit.learn(Kit.withReforms("keep 'ka'; list 'la' to 'aa'; law 'a' to 'b'; law 'b' to 'b'; law 'a' to 'x';"), "ka", "la", "a", "aaa", "b");
        due(20, "kept and listed words use none, others once", x.uses(0, 0), 2);
        due(20, "a law that changes nothing finds its place", x.uses(0, 1), 3);
        due(20, "what a law made is there for the next alone", x.uses(0, 2), 0);
        SpellTurner second = Kit.learn(Kit.withReforms(TWO_WAYS + "list 'n' to '';", "law 'c' to 'd'; law 'aa' to 'e'; law 'n' to 'm'; list 'z' to 'y';"), "aa", "a", "n", "z");
        due(20, "forms at the stage ahead of the reform", second.uses(1, 0) + " " + second.uses(1, 1), "1 1");
        due(20, "a lost word has none", second.uses(1, 2), 0);
        SpellTurner cut = Kit.learn(Kit.withReforms(TWO_WAYS, "law 'ccc' to 'd'; law 'ccaa' to 'e';"), "a".repeat(6));
        due(20, "the 12th form there counts, the 13th doesn't", cut.uses(1, 0) + " " + cut.uses(1, 1), "0 1");
        SpellTurner many = Kit.learn(Kit.withReforms(TWO_WAYS + "law 'a' to 'b' start; law 'caa' to 'q';"), "a".repeat(6));
        due(20, "forms that are left out were turned all the same", many.uses(0, 0) + " " + many.uses(0, 1), "1 1");
    }

    private static void usesOfPartings() {
        String parts = "part 'a'; part 'aa'; part 'x';";
        String word = "aaxaaaxaaaa";
        SpellTurner some = Kit.learn(Kit.withReforms(parts + "law 'aa' to 'c'; law 'aax' to 'd'; law 'x' to 'x' start end;"), word);
        due(20, "some parting is enough", some.uses(0, 0) + " " + some.uses(0, 2), "1 1");
        due(20, "no place across parts", some.uses(0, 1), 0);
        SpellTurner last = Kit.learn(Kit.withReforms(parts + "part '" + word + "'; law 'xaaax' to 'd';"), word);
        due(20, "the 31st parting is not looked at", last.uses(0, 0), 0);
        SpellTurner nineteenth = Kit.learn(Kit.withReforms(parts + "part 'aaxaaaxaaa'; law 'xaaax' to 'd';"), "aaxaaaxaaa");
        due(20, "the 19th of 19 is", nineteenth.uses(0, 0), 1);
    }

    private static String usesOf(String reform, String word, int laws) {
        SpellTurner x = Kit.learn(Kit.withReforms(reform), word);
        StringBuilder all = new StringBuilder();
        for (int l = 0; l < laws; l++) {
            all.append(x.uses(0, l));
        }
        return all.toString();
    }

    private static void usesUpToTooLong() {
        String grow = "law 'b' to 'c'; law 'a' to 'aa' end; law 'c' to 'd';";
        due(20, "24 letters behind a law: the next one counts", usesOf(grow, "b" + "a".repeat(22), 3), "111");
        due(20, "25 letters behind a law: it counts, the next doesn't", usesOf(grow, "b" + "a".repeat(23), 3), "110");
        String parts = "part 'a'; part 'b'; part 'c'; law 'a' to 'x'; law 'b' to 'bbbbbbbbbbbbb'; law 'b' to 'bb'; law 'x' to 'y'; law 'b' to 'y'; law 'c' to 'z';";
        due(20, "parts ahead of one that is too long count whole", usesOf(parts, "ab", 6), "111100");
        due(20, "parts behind it don't", usesOf(parts, "abc", 6), "111100");
        String ways = "part 'a'; part 'b'; part 'c'; law 'b' to 'bbbbbbbbbbbbb' start; law 'b' to 'bb'; law 'c' to 'z';";
        due(20, "of one parting alone", usesOf(ways, "abc", 3), "110");
        due(20, "another parting goes on", usesOf(ways + "part 'ab';", "abc", 3), "111");
        String sum = "part 'a'; part 'c'; law 'a' to 'bbbbbbbbbbbbb'; law 'c' to 'z';";
        due(20, "a sum above 24 is behind all laws", usesOf(sum, "aac", 2), "11");
    }

    private static void bookAndReformsInAnyOrder() {
        SpellTurner x = Kit.learn(new SpellTurner(), "abc", "bbc");
        due(16, "stage 0 alone", x.collisions(0) + " " + x.collisions(1), "0 -2");
        Kit.put(x, "law 'a' to 'b';").reform(1);
        due(16, "a reform behind the words", x.collisions(1) + " " + x.tell(1, 2) + " " + x.uses(0, 0), "1 1 1");
        Kit.learn(x, "cbc", "aac");
        due(16, "words behind the reform", x.collisions(1) + " " + x.tell(1, 2) + " " + x.uses(0, 0), "3 2 2");
        Kit.put(x, "law 'b' to 'c';").reform(2);
        due(16, "one more reform", x.collisions(2) + " " + x.tell(2, 2) + " " + x.uses(1, 0), "6 0 4");
        due(14, "words of spelling 0 stay", Kit.put(x, "abc").back(0) + " " + x.old(0), "1 0");
    }
}
