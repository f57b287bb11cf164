/** Each promise of the document with ordinary inputs, its edges and wrong inputs. */
public final class PromiseTest {
    private static final int NONE = SpellTurner.NONE;
    private static final int RANGE = SpellTurner.RANGE;
    private static final int FULL = SpellTurner.FULL;

    private PromiseTest() {
    }

    private static void due(String call, Object got, Object want) {
        Kit.due(call, got, want);
    }

    public static void main(String[] args) {
        newObject();
        tape();
        tapeIsEmptied();
        reformNumbers();
        faultsOfSyntax();
        faultsOfContent();
        faultsOfRoom();
        about();
        stage();
        lists();
        partedWords();
        laws();
        lawSides();
        tooLong();
        through();
        turnRange();
        partings();
        learn();
        back();
        collisions();
        rhymes();
        tell();
        uses();
        usesUpToTooLong();
        write();
        writeRefused();
        mixed();
        mixedEdges();
        Kit.close();
    }

    /** Promise 1, and what the others answer ahead of all. */
    private static void newObject() {
        SpellTurner x = new SpellTurner();
        due("new count(0)", x.count(0), 0);
        due("new count(1)", x.count(1), 0);
        due("new count(2)", x.count(2), 0);
        due("new fault", x.fault(0) + " " + x.fault(1) + " " + x.fault(2), "0 -1 -1");
        due("new about", x.about(0, 0), NONE);
        due("new stage", x.stage(100000), 0);
        due("new form", x.form(0, 0), NONE);
        due("new parting", x.parting(0, 0), NONE);
        due("new word", x.word(0, 0), NONE);
        due("new old", x.old(0), NONE);
        due("new collision", x.collision(0), NONE);
        due("new written", x.written(0), NONE);
        due("new counted", Kit.counted(x), "-1 -1 -1 -1 -1");
        due("new line", x.line(0), NONE);
        due("new collisions", x.collisions(0), 0);
        due("new rhymes", x.rhymes(0), 0);
        due("new tell", x.tell(0, 2), 0);
        due("new uses", x.uses(0, 0), RANGE);
        due("new turn", Kit.turned(x, "ab", 0, 0), "ab");
        due("new turn to 1", Kit.turned(x, "ab", 0, 1), "RANGE");
    }

    /** Promises 2, 3 and 26. */
    private static void tape() {
        SpellTurner x = new SpellTurner();
        due("feed", x.feed(0x61626364, 0x65666768, 0x696a6b6c, 0x6d6e6f70, 0x71727374), 20);
        due("learn of 20", x.learn(), 0);
        due("word", Kit.spell(i -> x.word(0, i)), "abcdefghijklmnopqrst");
        for (int n = 20; n <= 2000; n += 20) {
            due("feed " + n, x.feed(0, 0, 0, 0, 0), n);
        }
        due("feed over", x.feed(0, 0, 0, 0, 0), FULL);
        due("count behind FULL", x.count(2), 2000);
        due("end above", x.end(2001), NONE);
        due("end below", x.end(-1), NONE);
        due("end all", x.end(2000), 2000);
        due("end", x.end(1981), 1981);
        due("feed over by one", x.feed(0, 0, 0, 0, 0), FULL);
        due("end", x.end(1980), 1980);
        due("feed to the brim", x.feed(0, 0, 0, 0, 0), 2000);
        due("end", x.end(0), 0);
        due("end above nothing", x.end(1), NONE);
        due("count", x.count(2), 0);
        due("count of no such", x.count(3), NONE);
        due("count below", x.count(-1), NONE);
        x.feed(0xff80017f, 0, 0, 0, 0);
        x.end(4);
        due("write of any bytes", x.write(0, 0), 4);
        due("high bytes", x.written(0) + " " + x.written(1) + " " + x.written(2) + " " + x.written(3), "255 128 1 127");
    }

    private static void tapeIsEmptied() {
        SpellTurner x = Kit.withReforms("law 'a' to 'b';");
        String[] names = {"reform", "turn", "partings", "learn", "back", "write", "mixed"};
        for (int good = 0; good < 2; good++) {
            for (int call = 0; call < names.length; call++) {
                Kit.load(x, "ab;");
                x.end(good == 1 ? 2 : 3);
                int to = good == 1 ? 1 : 9;
                switch (call) {
                    case 0: x.reform(good == 1 ? 50 : -1); break;
                    case 1: x.turn(0, to); break;
                    case 2: x.partings(to - 1); break;
                    case 3: x.learn(); break;
                    case 4: x.back(to); break;
                    case 5: x.write(0, to); break;
                    default: x.mixed(good == 1 ? 1 : 51); break;
                }
                due("count(2) behind " + names[call], x.count(2), 0);
            }
        }
        Kit.load(x, "ab");
        x.collisions(1);
        x.rhymes(1);
        x.tell(1, 0);
        x.uses(0, 0);
        due("calls that don't read leave the tape", x.count(2), 2);
    }

    /** Promise 4. */
    private static void reformNumbers() {
        SpellTurner x = new SpellTurner();
        due("day below", Kit.load(x, "").reform(-1), RANGE);
        due("day above", Kit.load(x, "").reform(100001), RANGE);
        due("day 0", Kit.load(x, "").reform(0), 0);
        due("same day", Kit.load(x, "").reform(0), RANGE);
        due("faulty", Kit.load(x, "x").reform(7), NONE);
        due("RANGE ahead of a fault", Kit.load(x, ";;").reform(0), RANGE);
        due("fault of the latest not RANGE", x.fault(0) + " " + x.fault(1), "1 0");
        due("a faulty one's day doesn't count", Kit.load(x, " \n ").reform(3), 1);
        for (int r = 2; r < 6; r++) {
            due("reform " + r, Kit.load(x, "keep'a';").reform(10 * r), r);
        }
        due("a fault ahead of FULL", Kit.fault(x, "keep", 60), "-1 1 4");
        due("FULL", Kit.fault(x, "keep 'a';", 60), "-3 0 -1");
        due("RANGE ahead of FULL", Kit.load(x, "keep 'a';").reform(50), RANGE);
        due("count(0)", x.count(0), 6);
        due("the last day", Kit.fault(x, "", 100000), "-3 0 -1");
        due("stage of all", x.stage(50), 6);
    }

    /** Promise 5, KIND 1. */
    private static void faultsOfSyntax() {
        SpellTurner x = new SpellTurner();
        due("text ends", Kit.fault(x, "keep", 1), "-1 1 4");
        due("text ends behind blanks", Kit.fault(x, "keep 'a' \n ", 1), "-1 1 11");
        due("no such word", Kit.fault(x, " kee 'a';", 1), "-1 1 1");
        due("a word goes as far as letters do", Kit.fault(x, "keepa 'a';", 1), "-1 1 0");
        due("no word", Kit.fault(x, "'a';", 1), "-1 1 0");
        due("; alone", Kit.fault(x, "keep 'a';;", 1), "-1 1 9");
        due("capital", Kit.fault(x, "keep 'A';", 1), "-1 1 5");
        due("17 letters", Kit.fault(x, "keep 'abcdefghijklmnopq';", 1), "-1 1 5");
        due("letters that don't end", Kit.fault(x, "keep 'abc", 1), "-1 1 5");
        due("a lone tick at the end", Kit.fault(x, "keep '", 1), "-1 1 5");
        due("blank in letters", Kit.fault(x, "keep 'a b';", 1), "-1 1 5");
        due("tab", Kit.fault(x, "keep\t'a';", 1), "-1 1 4");
        due("byte 0", Kit.fault(x, "keep 'a';\0", 1), "-1 1 9");
        due("high byte", Kit.fault(x, "keep 'a'\u00e1;", 1), "-1 1 8");
        due("no to", Kit.fault(x, "list 'a' 'b';", 1), "-1 1 9");
        due("word for to", Kit.fault(x, "law 'a' too 'b';", 1), "-1 1 8");
        due("to without letters", Kit.fault(x, "law 'a' to ;", 1), "-1 1 11");
        due("keep has no to", Kit.fault(x, "keep 'a' to 'b';", 1), "-1 1 9");
        due("list has no sides", Kit.fault(x, "list 'a' to 'b' start;", 1), "-1 1 16");
        due("after without letters", Kit.fault(x, "law 'a' to 'b' after start;", 1), "-1 1 21");
        due("letters for a side", Kit.fault(x, "law 'a' to 'b' 'c';", 1), "-1 1 15");
        due("start and end in one", Kit.fault(x, "law 'a' to 'b' startend;", 1), "-1 1 15");
        due("law ends open", Kit.fault(x, "law 'a' to 'b' start end", 1), "-1 1 24");
        due("without blanks", Kit.fault(x, "law'a'to'b'after'c'before'd'end start;keep'a';list'b'to'';part'a';", 1), "0 0 -1");
        due("with blanks of both kinds", Kit.fault(x, "\n keep \n 'abcdefghijklmnop' \n ; \n", 2), "1 0 -1");
    }

    /** Promise 5, KINDS 2 and 3. */
    private static void faultsOfContent() {
        SpellTurner x = new SpellTurner();
        due("keep empty", Kit.fault(x, "keep '';", 1), "-1 2 5");
        due("list empty", Kit.fault(x, "list '' to 'a';", 1), "-1 2 5");
        due("part empty", Kit.fault(x, "part '';", 1), "-1 2 5");
        due("law empty", Kit.fault(x, "law '' to 'a';", 1), "-1 2 4");
        due("after empty", Kit.fault(x, "law 'a' to 'a' after '';", 1), "-1 2 21");
        due("before empty", Kit.fault(x, "law 'a' to 'a' before '';", 1), "-1 2 22");
        due("empty behind to", Kit.fault(x, "list 'a' to ''; law 'a' to '';", 1), "0 0 -1");
        due("keep twice", Kit.fault(x, "keep 'a'; keep 'a';", 2), "-1 3 15");
        due("list behind keep", Kit.fault(x, "keep 'a'; list 'a' to 'b';", 2), "-1 3 15");
        due("keep behind list", Kit.fault(x, "list 'a' to 'b'; keep 'a';", 2), "-1 3 22");
        due("part twice", Kit.fault(x, "part 'a'; part 'a';", 2), "-1 3 15");
        due("start twice", Kit.fault(x, "law 'a' to '' start end start;", 2), "-1 3 24");
        due("end twice", Kit.fault(x, "law 'a' to '' end end;", 2), "-1 3 18");
        due("after twice", Kit.fault(x, "law 'a' to '' after 'b' after '';", 2), "-1 3 24");
        due("before twice", Kit.fault(x, "law 'a' to '' before 'b' before 'b';", 2), "-1 3 25");
        due("the first that is come to", Kit.fault(x, "keep 'a'; keep 'a' x", 2), "-1 3 15");
        due("no part of keep", Kit.fault(x, "keep 'a'; part 'a'; law 'a' to 'a'; law 'a' to 'a'; list 'b' to 'a';", 2), "1 0 -1");
    }

    /** Promise 5, KIND 4. */
    private static void faultsOfRoom() {
        SpellTurner x = new SpellTurner();
        StringBuilder laws = new StringBuilder();
        StringBuilder parts = new StringBuilder();
        StringBuilder entries = new StringBuilder();
        for (int n = 0; n < 40; n++) {
            String name = "" + (char) ('a' + n / 26) + (char) ('a' + n % 26);
            laws.append("law'a'to'';");
            parts.append("part'").append(name).append("';");
            entries.append(n % 2 == 0 ? "keep'" + name + "';" : "list'" + name + "'to'';");
        }
        due("41st law", Kit.fault(x, laws + " law", 1), "-1 4 441");
        due("41st part", Kit.fault(x, parts + "part'';", 1), "-1 4 360");
        due("41st keep", Kit.fault(x, entries + "keep'aa';", 1), "-1 4 " + entries.length());
        due("41st list", Kit.fault(x, entries + "\nlist", 1), "-1 4 " + (entries.length() + 1));
        due("40 of each", Kit.fault(x, "" + laws + parts + entries, 1), "0 0 -1");
        due("about 40", x.about(0, 1) + " " + x.about(0, 2) + " " + x.about(0, 3) + " " + x.about(0, 4), "40 40 20 20");
        due("room is of one reform", Kit.fault(x, "" + laws + parts + entries, 2), "1 0 -1");
    }

    /** Promise 6. */
    private static void about() {
        SpellTurner x = new SpellTurner();
        Kit.load(x, "keep 'a'; list 'b' to 'c'; list 'c' to 'd'; part 'x'; part 'y'; part 'z'; law 'a' to 'b';").reform(77);
        due("about", x.about(0, 0) + " " + x.about(0, 1) + " " + x.about(0, 2) + " " + x.about(0, 3) + " " + x.about(0, 4), "77 1 3 1 2");
        due("about no such what", x.about(0, 5) + " " + x.about(0, -1), "-1 -1");
        due("about no such reform", x.about(1, 0) + " " + x.about(-1, 0) + " " + x.about(6, 0), "-1 -1 -1");
        Kit.load(x, "keep 'q'; part 'q'; keep").reform(78);
        due("a faulty text leaves nothing", Kit.load(x, "").reform(78), 1);
        due("about an empty one", x.about(1, 0) + " " + x.about(1, 1) + " " + x.about(1, 2) + " " + x.about(1, 3) + " " + x.about(1, 4), "78 0 0 0 0");
    }

    /** Promise 7. */
    private static void stage() {
        SpellTurner x = new SpellTurner();
        Kit.load(x, "").reform(0);
        Kit.load(x, "").reform(500);
        Kit.load(x, "").reform(100000);
        due("stages", x.stage(0) + " " + x.stage(499) + " " + x.stage(500) + " " + x.stage(99999) + " " + x.stage(100000), "1 1 2 2 3");
        due("no such day", x.stage(-1) + " " + x.stage(100001), "-2 -2");
    }

    /** Promises 8 and 9 from here up to turnRange: kept and listed words. */
    private static void lists() {
        SpellTurner x = Kit.withReforms("keep 'aa'; list 'ab' to 'xy'; list 'ac' to ''; part 'a'; law 'a' to 'b';");
        due("kept", Kit.turned(x, "aa", 0, 1), "aa");
        due("listed", Kit.turned(x, "ab", 0, 1), "xy");
        due("listed to nothing", Kit.turned(x, "ac", 0, 1), "");
        due("else by parts", Kit.turned(x, "aaa", 0, 1), "bbb");
        due("else by laws", Kit.turned(x, "acc", 0, 1), "bcc");
    }

    private static void partedWords() {
        SpellTurner x = Kit.withReforms("part 'ab'; part 'c'; part 'a'; part 'bc'; law 'b' to 'x' start; law 'c' to 'y' start;");
        due("two ways", Kit.turned(x, "abc", 0, 1), "axc aby");
        due("one way", Kit.turned(x, "ab", 0, 1), "ab");
        due("no way: one part of itself", Kit.turned(x, "babc", 0, 1), "xabc");
        SpellTurner same = Kit.withReforms("part 'a'; part 'aa'; law 'a' to 'b';");
        due("each form once", Kit.turned(same, "aaaa", 0, 1), "bbbb");
        SpellTurner many = Kit.withReforms("part 'a'; part 'aa'; law 'a' to 'b' start;");
        due("first twelve", Kit.turned(many, "aaaaaa", 0, 1), "bbbbbb bbbbba bbbbab bbbabb bbbaba bbabbb bbabba bbabab babbbb babbba babbab bababb");
    }

    private static void laws() {
        SpellTurner x = Kit.withReforms("law 'aa' to 'a'; law 'b' to 'bb'; law 'xy' to 'y';");
        due("what is written is not looked at", Kit.turned(x, "aaaa", 0, 1), "aa");
        due("from the left", Kit.turned(x, "aaa", 0, 1), "aa");
        due("nor grown again", Kit.turned(x, "b", 0, 1), "bb");
        due("nor found across it", Kit.turned(x, "xxyy", 0, 1), "xyy");
        SpellTurner row = Kit.withReforms("law 'a' to 'b'; law 'b' to 'c'; law 'a' to 'd';");
        due("one law behind the other", Kit.turned(row, "ab", 0, 1), "cc");
        SpellTurner gone = Kit.withReforms("law 'a' to '';");
        due("nothing is left", Kit.turned(gone, "aaa", 0, 1), "");
        due("something is left", Kit.turned(gone, "aba", 0, 1), "b");
        SpellTurner parts = Kit.withReforms("part 'a'; part 'b'; law 'a' to ''; law 'ab' to 'c';");
        due("laws stay within a part, one of which may vanish", Kit.turned(parts, "ab", 0, 1), "b");
        due("all parts vanish", Kit.turned(parts, "aa", 0, 1), "");
    }

    private static void lawSides() {
        SpellTurner start = Kit.withReforms("law 'a' to '' start;");
        due("start while nothing is written ahead", Kit.turned(start, "aaba", 0, 1), "ba");
        SpellTurner once = Kit.withReforms("law 'a' to 'b' start;");
        due("start once", Kit.turned(once, "aaa", 0, 1), "baa");
        SpellTurner end = Kit.withReforms("law 'ab' to 'x' end;");
        due("end", Kit.turned(end, "abab", 0, 1), "abx");
        SpellTurner both = Kit.withReforms("law 'ab' to 'x' start end;");
        due("start and end", Kit.turned(both, "ab", 0, 1) + " " + Kit.turned(both, "abab", 0, 1), "x abab");
        SpellTurner after = Kit.withReforms("law 'a' to 'b' after 'b';");
        due("after looks at what was written", Kit.turned(after, "baa", 0, 1), "bbb");
        SpellTurner afterOld = Kit.withReforms("law 'a' to 'b' after 'a';");
        due("after looks at no letter that is gone", Kit.turned(afterOld, "aaaa", 0, 1), "abab");
        SpellTurner before = Kit.withReforms("law 'a' to 'b' before 'a';");
        due("before looks at what is not yet written", Kit.turned(before, "aaa", 0, 1), "bba");
        SpellTurner afterLong = Kit.withReforms("law 'a' to 'x' after 'bcd' before 'ef';");
        due("after and before", Kit.turned(afterLong, "bcdaef", 0, 1) + " " + Kit.turned(afterLong, "cdaef", 0, 1)
                + " " + Kit.turned(afterLong, "bcdae", 0, 1), "bcdxef cdaef bcdae");
        SpellTurner never = Kit.withReforms("law 'a' to 'x' end before 'a'; law 'b' to 'y' start after 'a';");
        due("sides that can't be", Kit.turned(never, "abaa", 0, 1), "abaa");
    }

    private static void tooLong() {
        SpellTurner x = Kit.withReforms("law 'a' to 'aa'; law 'aa' to 'a';");
        due("24 behind a law", Kit.turned(x, "aaaaaaaaaaaa", 0, 1), "aaaaaaaaaaaa");
        due("26 behind a law, though less in the end", Kit.turned(x, "aaaaaaaaaaaaa", 0, 1), "");
        SpellTurner sum = Kit.withReforms("part 'a'; part 'ab'; part 'b'; law 'a' to 'abcdefghijkl' end;");
        due("24 of parts", Kit.turned(sum, "aa", 0, 1), "abcdefghijklabcdefghijkl");
        due("25 of parts", Kit.turned(sum, "aab", 0, 1), "abcdefghijklab");
        SpellTurner part = Kit.withReforms("part 'a'; part 'aa'; law 'aa' to 'abcdefghijklmnop'; law 'b' to 'bcdefghijk'; law 'b' to '';");
        due("a part that was too long for a while", Kit.turned(part, "aa", 0, 1), "aa");
        SpellTurner long16 = Kit.withReforms("law 'a' to 'abcdefghijklmnop';");
        due("16 for each", Kit.turned(long16, "aaaaaaaaaaaaaaaaaaaaaaaa", 0, 1), "");
        due("a word of 24 letters", Kit.turned(long16, "bbbbbbbbbbbbbbbbbbbbbbbb", 0, 1), "bbbbbbbbbbbbbbbbbbbbbbbb");
    }

    private static void through() {
        String twoWays = "part 'a'; part 'aa'; law 'aa' to 'c';";
        SpellTurner x = Kit.withReforms(twoWays, "law 'c' to 'aa';", twoWays);
        due("one", Kit.turned(x, "aa", 0, 1), "aa c");
        due("two that meet", Kit.turned(x, "aa", 0, 2), "aa");
        due("three", Kit.turned(x, "aa", 0, 3), "aa c");
        due("from the middle", Kit.turned(x, "c", 1, 3), "aa c");
        due("none between", Kit.turned(x, "aa", 2, 2), "aa");
        SpellTurner lost = Kit.withReforms("list 'a' to '';", "list 'b' to 'c';");
        due("lost stays lost", Kit.turned(lost, "a", 0, 2), "");
    }

    private static void turnRange() {
        SpellTurner x = Kit.withReforms("law 'a' to 'b';");
        due("a good one", Kit.turned(x, "ab", 0, 1), "bb");
        due("from above to", Kit.load(x, "ab").turn(1, 0), RANGE);
        due("from below 0", Kit.load(x, "ab").turn(-1, 0), RANGE);
        due("to above all", Kit.load(x, "ab").turn(0, 2), RANGE);
        due("no letters", Kit.load(x, "").turn(0, 1), RANGE);
        due("25 letters", Kit.load(x, "aaaaaaaaaaaaaaaaaaaaaaaaa").turn(0, 1), RANGE);
        due("capital", Kit.load(x, "Ab").turn(0, 1), RANGE);
        due("blank", Kit.load(x, "a b").turn(0, 1), RANGE);
        due("RANGE leaves the forms", Kit.forms(x), "bb");
        due("form edges", x.form(0, 2) + " " + x.form(0, -1) + " " + x.form(1, 0) + " " + x.form(-1, 0)
                + " " + x.form(Integer.MAX_VALUE, Integer.MIN_VALUE), "-1 -1 -1 -1 -1");
    }

    /** Promises 10 and 11. */
    private static void partings() {
        SpellTurner x = Kit.withReforms("keep 'kk'; list 'll' to 'm'; part 'ab'; part 'c'; part 'a'; part 'bc';", "");
        due("partings", Kit.load(x, "abcab").partings(0), 2);
        due("in order", Kit.partings(x), "1+2+2 2+1+2");
        due("parting edges", x.parting(0, 4) + " " + x.parting(2, 0) + " " + x.parting(-1, 0) + " " + x.parting(0, -1)
                + " " + x.parting(0, Integer.MIN_VALUE) + " " + x.parting(0, Integer.MAX_VALUE), "-1 -1 -1 -1 -1 -1");
        due("kept", Kit.load(x, "kk").partings(0), -10);
        due("listed", Kit.load(x, "ll").partings(0), -11);
        due("no such reform", Kit.load(x, "ab").partings(2) + " " + Kit.load(x, "ab").partings(-1), "-2 -2");
        due("no such word", Kit.load(x, "").partings(0) + " " + Kit.load(x, "a-").partings(0), "-2 -2");
        due("those leave the partings", Kit.partings(x), "1+2+2 2+1+2");
        due("none", Kit.load(x, "abb").partings(0), 0);
        due("none to tell", x.parting(0, 0), NONE);
        due("no parts", Kit.load(x, "ab").partings(1), 0);
        SpellTurner many = Kit.withReforms("part 'aaa'; part 'aa'; part 'a';");
        due("all of 24", Kit.load(many, "aaaaa").partings(0), 13);
        due("shorter first", Kit.partings(many), "1+1+1+1+1 1+1+1+2 1+1+2+1 1+1+3 1+2+1+1 1+2+2 1+3+1 2+1+1+1 2+1+2 2+2+1 2+3 3+1+1 3+2");
        due("30 at the most", Kit.load(many, "aaaaaaaaaaaaaaaaaaaaaaaa").partings(0), 30);
        due("parts of the first", many.parting(0, 0) + " " + many.parting(0, 24) + " " + many.parting(0, 25), "24 1 -1");
        due("dead ends don't count", Kit.load(many, "aaaaaaaaaaaaaaaaaaaaaaab").partings(0), 0);
    }

    /** Promises 12 and 13. */
    private static void learn() {
        SpellTurner x = new SpellTurner();
        for (int n = 0; n < 100; n++) {
            due("learn " + n, Kit.load(x, "w" + (char) ('a' + n / 10) + (char) ('a' + n % 10)).learn(), n);
        }
        due("known in a full book", Kit.load(x, "wab").learn(), 1);
        due("FULL", Kit.load(x, "z").learn(), FULL);
        due("RANGE ahead of FULL", Kit.load(x, "z1").learn(), RANGE);
        due("empty", Kit.load(x, "").learn(), RANGE);
        due("count", x.count(1), 100);
        due("word 99", Kit.spell(i -> x.word(99, i)), "wjj");
        due("word edges", x.word(100, 0) + " " + x.word(-1, 0) + " " + x.word(0, 3) + " " + x.word(0, -1), "-1 -1 -1 -1");
    }

    /** Promises 14 and 15. */
    private static void back() {
        SpellTurner x = Kit.learn(Kit.withReforms("law 'a' to 'b';", "part 'b'; part 'bb'; law 'bb' to 'c';"), "ab", "ba", "c", "bb", "x");
        due("back 0", Kit.load(x, "ba").back(0) + " " + x.old(0) + " " + x.old(1), "1 1 -1");
        due("back 1", Kit.load(x, "bb").back(1) + " " + x.old(0) + x.old(1) + x.old(2) + " " + x.old(3), "3 013 -1");
        due("back 2", Kit.load(x, "c").back(2) + " " + x.old(0) + x.old(1) + x.old(2) + x.old(3), "4 0123");
        due("no such stage", Kit.load(x, "c").back(3) + " " + Kit.load(x, "c").back(-1), "-2 -2");
        due("no such word", Kit.load(x, "c c").back(2), RANGE);
        due("RANGE leaves them", x.old(3) + " " + x.old(4) + " " + x.old(-1), "3 -1 -1");
        due("nobody", Kit.load(x, "q").back(2) + " " + x.old(0), "0 -1");
        Kit.learn(x, "aa");
        due("a word that came later", Kit.load(x, "c").back(2) + " " + x.old(4), "5 5");
    }

    /** Promises 16 and 17. */
    private static void collisions() {
        SpellTurner x = Kit.learn(Kit.withReforms("law 'a' to 'b';"), "b", "a", "x", "ab", "bb", "ba");
        due("at 0", x.collisions(0), 0);
        due("at 1", x.collisions(1), 4);
        due("which", x.collision(0) + " " + x.collision(1) + " " + x.collision(2) + " " + x.collision(3) + " " + x.collision(4), "1 3004 3005 4005 -1");
        due("below", x.collision(-1), NONE);
        due("no such stage", x.collisions(2) + " " + x.collisions(-1), "-2 -2");
        due("a refused call has none", x.collision(0), NONE);
        SpellTurner many = Kit.withReforms("law 'a' to 'b';");
        for (int n = 0; n < 32; n++) {
            StringBuilder word = new StringBuilder();
            for (int bit = 0; bit < 5; bit++) {
                word.append((n >> bit & 1) == 0 ? 'a' : 'b');
            }
            Kit.learn(many, word.toString());
        }
        due("all pairs", many.collisions(1), 496);
        due("the last that is told", many.collision(199) + " " + many.collision(200), "7011 -1");
        SpellTurner doubt = Kit.learn(Kit.withReforms("part 'a'; part 'aa'; law 'aa' to 'c';"), "aa", "c", "ca");
        due("a form in common", doubt.collisions(1) + " " + doubt.collision(0), "1 1");
    }

    /** Promise 18. */
    private static void rhymes() {
        SpellTurner x = Kit.learn(Kit.withReforms("list 'xabc' to 'xabd'; list 'zabc' to '';", "list 'yabc' to 'bd';"),
                "xabc", "yabc", "abc", "bc", "zbc", "zabc");
        due("none is lost at 0", x.rhymes(0), 0);
        due("at 1", x.rhymes(1), 5);
        due("at 2", x.rhymes(2), 6);
        due("no such stage", x.rhymes(3) + " " + x.rhymes(-1), "-2 -2");
        SpellTurner doubt = Kit.learn(Kit.withReforms("part 'aab'; part 'aa'; part 'b'; law 'aab' to 'xyz'; law 'daab' to 'dxyz';"), "aab", "daab");
        due("one form is enough", doubt.rhymes(1), 0);
        SpellTurner met = Kit.learn(Kit.withReforms("law 'd' to '';"), "dabc", "abc");
        due("words that became one still rhyme", met.rhymes(1), 0);
        SpellTurner cut = Kit.learn(Kit.withReforms("law 'a' to '';"), "abc", "xabc");
        due("a form of two letters has no rhyme", cut.rhymes(1), 1);
    }

    /** Promise 19. */
    private static void tell() {
        SpellTurner x = Kit.learn(Kit.withReforms("part 'a'; part 'aa'; law 'aa' to 'c'; list 'l' to ''; keep 'k';"), "aa", "l", "k", "q", "a", "aaa", "baa");
        due("doubts", x.tell(1, 0), 2);
        due("lost", x.tell(1, 1), 1);
        due("the same", x.tell(1, 2), 3);
        due("at 0", x.tell(0, 0) + " " + x.tell(0, 1) + " " + x.tell(0, 2), "0 0 7");
        due("wrong", x.tell(2, 0) + " " + x.tell(-1, 0) + " " + x.tell(1, 3) + " " + x.tell(1, -1), "-2 -2 -2 -2");
    }

    /** Promise 20. */
    private static void uses() {
        SpellTurner x = Kit.learn(Kit.withReforms("law 'a' to 'b'; law 'b' to 'b'; law 'a' to 'x'; keep 'ka'; list 'la' to 'a';", "law 'b' to 'c'; law 'a' to 'd';"),
                "a", "b", "ka", "la", "ca", "z");
        due("law 0", x.uses(0, 0), 2);
        due("law 1 finds a place though nothing changes", x.uses(0, 1), 3);
        due("law 2 finds none", x.uses(0, 2), 0);
        due("of the second reform", x.uses(1, 0) + " " + x.uses(1, 1), "3 2");
        due("wrong", x.uses(0, 3) + " " + x.uses(0, -1) + " " + x.uses(2, 0) + " " + x.uses(-1, 0), "-2 -2 -2 -2");
        Kit.learn(x, "aaa");
        due("a word that came later", x.uses(0, 0), 3);
        SpellTurner parts = Kit.learn(Kit.withReforms("part 'ab'; part 'a'; part 'b'; law 'ab' to 'x'; law 'b' to 'y' start;"), "ab");
        due("some parting", parts.uses(0, 0) + " " + parts.uses(0, 1), "1 1");
    }

    private static void usesUpToTooLong() {
        SpellTurner x = Kit.learn(Kit.withReforms("law 'a' to 'aa'; law 'a' to 'aaaaaaaa'; law 'a' to 'b';"), "aaaa");
        due("it is lost", x.tell(1, 1), 1);
        SpellTurner parts = Kit.learn(Kit.withReforms("part 'a'; part 'b'; part 'c'; law 'a' to 'x'; law 'b' to 'bbbbbbbbbbbbb'; law 'b' to 'bb'; law 'b' to 'y'; law 'c' to 'z';"), "abc");
        due("the parts ahead of it count, those behind it don't", parts.uses(0, 0) + " " + parts.uses(0, 1) + " " + parts.uses(0, 2)
                + " " + parts.uses(0, 3) + " " + parts.uses(0, 4), "1 1 1 0 0");
        SpellTurner sum = Kit.learn(Kit.withReforms("part 'a'; part 'c'; law 'a' to 'bbbbbbbbbbbbb'; law 'c' to 'z';"), "aac");
        due("the sum is no law", sum.tell(1, 1) + " " + sum.uses(0, 0) + " " + sum.uses(0, 1), "1 1 1");
        due("up to the law behind which there is none", x.uses(0, 0) + " " + x.uses(0, 1) + " " + x.uses(0, 2), "1 1 0");
    }

    /** Promises 21 to 23. */
    private static void write() {
        SpellTurner x = Kit.withReforms("law 'a' to 'oo'; list 'l' to ''; part 'ta'; part 't'; part 'a';", "law 'oo' to 'u';");
        due("write", Kit.load(x, "ba \"ba Ba\" Ba l,ta\nx!ba").write(0, 1), 26);
        due("written", Kit.written(x), "boo \"ba Ba\" Ba l,too\nx!boo");
        due("counted", Kit.counted(x), "5 3 0 1 1");
        due("counted of no such", x.counted(5) + " " + x.counted(-1), "-1 -1");
        due("written edges", x.written(26) + " " + x.written(-1), "-1 -1");
        due("an open quote", Kit.load(x, "a\"a\"a\"a Aa").write(0, 2), 10);
        due("goes to the end", Kit.written(x) + " " + Kit.counted(x), "u\"a\"u\"a Aa 2 2 0 0 0");
        due("from the middle", Kit.load(x, "oo-a").write(1, 2) + " " + Kit.written(x), "3 u-a");
        due("nothing between", Kit.load(x, "a b").write(1, 1) + " " + Kit.counted(x), "3 2 0 0 0 0");
        due("an empty text", Kit.load(x, "").write(0, 1) + " " + Kit.counted(x) + " " + x.written(0), "0 0 0 0 0 0 -1");
        String word25 = "aaaaaaaaaaaaaaaaaaaaaaaaa";
        due("25 letters", Kit.load(x, word25 + " aA" + word25).write(0, 1) + " " + Kit.counted(x), "53 1 0 0 1 1");
        SpellTurner doubt = Kit.withReforms("part 'a'; part 'aa'; law 'aa' to 'c';");
        due("a doubt takes its first form", Kit.load(doubt, "aa\u00ffaa").write(0, 1) + " " + Kit.written(doubt) + " " + Kit.counted(doubt), "5 aa\u00ffaa 2 0 2 0 0");
    }

    private static void writeRefused() {
        SpellTurner x = Kit.withReforms("law 'a' to 'bbbbb'; law 'c' to '';");
        due("a good one", Kit.load(x, "a A").write(0, 1), 7);
        due("stages", Kit.load(x, "a").write(1, 0) + " " + Kit.load(x, "a").write(0, 2) + " " + Kit.load(x, "a").write(-1, 0), "-2 -2 -2");
        due("RANGE ahead of byte 0", Kit.load(x, "a\0").write(0, 2), RANGE);
        due("byte 0", Kit.load(x, "a\0").write(0, 1), NONE);
        due("byte 0 in a quote", Kit.load(x, "a \"\0\"").write(0, 1), NONE);
        StringBuilder text = new StringBuilder();
        for (int n = 0; n < 416; n++) {
            text.append("a ");
        }
        due("too long by one", Kit.load(x, text + "12345").write(0, 1), NONE);
        due("these leave the text", Kit.written(x) + " " + Kit.counted(x), "bbbbb A 1 1 0 0 1");
        due("2500 bytes", Kit.load(x, text + "1234").write(0, 1) + " " + x.written(2499) + " " + x.written(2500), "2500 52 -1");
        due("too long in the last word", Kit.load(x, text + "a").write(0, 1), NONE);
        due("counted stays", x.counted(0), 416);
    }

    /** Promises 24 and 25. */
    private static void mixed() {
        SpellTurner x = Kit.learn(Kit.withReforms("law 'a' to 'b';", "law 'b' to 'c';"), "a", "ax", "q");
        due("cheap to change", Kit.load(x, "a ax\nb bx\nc cx q").mixed(1) + " " + Kit.lines(x), "2 012");
        due("dear to change", Kit.load(x, "a ax\nb bx\nc cx q").mixed(3) + " " + Kit.lines(x), "4 000");
        due("free to change", Kit.load(x, "a ax\nb bx\nc cx q\n\nb").mixed(0) + " " + Kit.lines(x), "0 01201");
        due("the least row of those as cheap", Kit.load(x, "q\nb\nq\nc\nq").mixed(1) + " " + Kit.lines(x), "1 11111");
        due("two changes or two words", Kit.load(x, "q\nb b\nq").mixed(1) + " " + Kit.lines(x), "0 111");
        due("names and quotes cost nothing", Kit.load(x, "Zz \"zz\nzz\" b").mixed(5) + " " + Kit.lines(x), "0 11");
        due("words that are nowhere", Kit.load(x, "zz zz\nzz aaaaaaaaaaaaaaaaaaaaaaaaaaaaa").mixed(5) + " " + Kit.lines(x), "4 00");
    }

    private static void mixedEdges() {
        SpellTurner x = Kit.learn(Kit.withReforms("law 'a' to 'b';"), "a");
        due("an empty text has a line", Kit.load(x, "").mixed(0) + " " + Kit.lines(x), "0 0");
        due("a line behind the last 10", Kit.load(x, "b\n").mixed(50) + " " + Kit.lines(x), "0 11");
        due("price", Kit.load(x, "a").mixed(-1) + " " + Kit.load(x, "a").mixed(51), "-2 -2");
        due("RANGE ahead of NONE", Kit.load(x, "\0").mixed(51), RANGE);
        due("byte 0", Kit.load(x, "a\0").mixed(1), NONE);
        String lines40 = "b" + "\n".repeat(39);
        due("41 lines", Kit.load(x, lines40 + "\n").mixed(1), NONE);
        due("41 lines in a quote", Kit.load(x, "\"" + lines40 + "\n\"").mixed(1), NONE);
        due("those leave the lines", Kit.lines(x), "11");
        due("40 lines", Kit.load(x, lines40).mixed(1) + " " + Kit.lines(x), "0 " + "1".repeat(40));
        due("line edges", x.line(40) + " " + x.line(-1), "-1 -1");
        SpellTurner bare = new SpellTurner();
        due("no reforms, no book", Kit.load(bare, "ab cd\nef").mixed(1) + " " + Kit.lines(bare), "3 00");
    }
}
