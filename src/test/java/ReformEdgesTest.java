/** Terms I with promises 1 to 7 and 26 at their boundaries: the tape, reforms, faults, days and counts. */
public final class ReformEdgesTest {
    private static final int NONE = SpellTurner.NONE;
    private static final int RANGE = SpellTurner.RANGE;
    private static final int FULL = SpellTurner.FULL;
    private static final String A16 = "aaaaaaaaaaaaaaaa";

    private ReformEdgesTest() {
    }

    private static void due(int promise, String edge, Object got, Object want) {
        Kit.promise(promise, edge, got, want);
    }

    public static void main(String[] args) {
        newObjectHasNothing();
        newObjectIsAlone();
        feedOrder();
        feedBrim();
        endBrim();
        tapeIsEmptiedByReform();
        tapeIsEmptiedByWords();
        tapeIsEmptiedByTexts();
        tapeIsLeftByOthers();
        days();
        daysThatAreNotTaken();
        sixReforms();
        longestText();
        emptyTexts();
        faultAhead();
        faultOfTheLatest();
        faultAtEachToken();
        faultOfLettersLength();
        faultOfBytes();
        faultOfEmptyLetters();
        faultOfTwice();
        faultOfRoom();
        faultThatIsFirst();
        faultyTextIsForgotten();
        about();
        stage();
        count();
        Kit.covered(1, 7);
        Kit.covered(26, 26);
        Kit.close();
    }

    private static void newObjectHasNothing() {
        SpellTurner x = new SpellTurner();
        due(1, "no reforms, words, bytes", x.count(0) + " " + x.count(1) + " " + x.count(2), "0 0 0");
        due(1, "no reform to tell of", x.about(0, 0) + " " + x.uses(0, 0) + " " + Kit.put(x, "a").partings(0), "-1 -2 -2");
        due(1, "stage 0 alone", x.stage(0) + " " + x.stage(100000), "0 0");
        due(1, "a word is itself", Kit.put(x, "a").turn(0, 0) + " " + Kit.put(x, "a").turn(0, 1) + " " + Kit.put(x, "a").turn(1, 1), "1 -2 -2");
        due(1, "no word to tell of", x.word(0, 0), NONE);
        due(1, "none is found back", Kit.put(x, "a").back(0) + " " + Kit.put(x, "a").back(1), "0 -2");
        due(1, "no collisions", x.collisions(0) + " " + x.collision(0) + " " + x.collisions(1), "0 -1 -2");
        due(1, "no rhymes", x.rhymes(0) + " " + x.rhymes(1), "0 -2");
        due(1, "none to tell", x.tell(0, 0) + " " + x.tell(0, 1) + " " + x.tell(0, 2) + " " + x.tell(1, 0), "0 0 0 -2");
        due(1, "a text stays", Kit.put(x, "ab").write(0, 0) + " " + Kit.written(x), "2 ab");
        due(1, "a mixed text has stage 0", Kit.put(x, "ab\ncd").mixed(0) + " " + Kit.lines(x), "2 00");
    }

    private static void newObjectIsAlone() {
        SpellTurner first = Kit.learn(Kit.withReforms("law 'a' to 'b';"), "a", "b");
        first.collisions(1);
        Kit.put(first, "a").turn(0, 1);
        Kit.put(first, "a").write(0, 1);
        Kit.put(first, "b").mixed(1);
        Kit.put(first, "b").back(1);
        Kit.put(first, "x").reform(9);
        Kit.put(first, "abc");
        SpellTurner x = new SpellTurner();
        due(1, "nothing of another object", x.count(0) + " " + x.count(1) + " " + x.count(2), "0 0 0");
        due(1, "no answers of another object", x.form(0, 0) + " " + x.old(0) + " " + x.collision(0) + " " + x.written(0)
                + " " + x.counted(0) + " " + x.line(0) + " " + x.fault(0) + " " + x.fault(1), "-1 -1 -1 -1 -1 -1 0 -1");
    }

    private static void feedOrder() {
        SpellTurner x = new SpellTurner();
        due(2, "the first twenty", x.feed(0x01020304, 0x05060708, 0x090a0b0c, 0x0d0e0f10, 0x11121314), 20);
        x.write(0, 0);
        for (int i = 0; i < 20; i++) {
            due(2, "the highest byte first: byte " + i, x.written(i), i + 1);
        }
        due(2, "the next twenty begin anew", x.feed(Integer.MIN_VALUE, -1, Integer.MAX_VALUE, 0x80818283, 0x7f80ff01), 20);
        x.end(20);
        due(2, "a byte 0 comes too", x.write(0, 0), NONE);
        x.feed(-1, 0x80ff7f01, 0x61616161, 0x61616161, 0x61616161);
        due(2, "behind what is there", x.feed(0x62626262, 0x62626262, 0x62626262, 0x62626262, 0x63636364), 40);
        x.write(0, 0);
        due(2, "highest bits", x.written(0) + " " + x.written(3) + " " + x.written(4) + " " + x.written(5) + " " + x.written(6) + " " + x.written(7),
                "255 255 128 255 127 1");
        due(2, "both in order", x.written(19) + " " + x.written(20) + " " + x.written(38) + " " + x.written(39) + " " + x.written(40), "97 98 99 100 -1");
        x.feed(0x61626364, 0, 0, 0, 0);
        x.end(3);
        due(2, "behind what end left", x.feed(0x65666768, 0x20202020, 0x20202020, 0x20202020, 0x20202020), 23);
        x.end(7);
        due(2, "what end took is gone", x.learn() + " " + Kit.spell(i -> x.word(0, i)), "0 abcefgh");
    }

    private static SpellTurner fedTo(int length) {
        SpellTurner x = new SpellTurner();
        for (int n = 20; n <= 2000 && n - 20 < length; n += 20) {
            x.feed(0x61616161, 0x61616161, 0x61616161, 0x61616161, 0x61616161);
        }
        x.end(length);
        return x;
    }

    private static int feedB(SpellTurner x) {
        return x.feed(0x62626262, 0x62626262, 0x62626262, 0x62626262, 0x62626262);
    }

    private static void feedBrim() {
        due(2, "1980 and 20", feedB(fedTo(1980)), 2000);
        due(2, "1979 and 20", feedB(fedTo(1979)), 1999);
        due(2, "1981 and 20", feedB(fedTo(1981)), FULL);
        due(2, "1999 and 20", feedB(fedTo(1999)), FULL);
        SpellTurner x = fedTo(2000);
        due(2, "2000 and 20", feedB(x), FULL);
        due(2, "FULL again", feedB(x), FULL);
        due(2, "FULL leaves the length", x.count(2), 2000);
        due(2, "FULL leaves the bytes", x.write(0, 0) + " " + x.written(0) + " " + x.written(1980) + " " + x.written(1999) + " " + x.written(2000),
                "2000 97 97 97 -1");
        due(2, "room again when it was read", feedB(x), 20);
        SpellTurner cut = fedTo(1981);
        feedB(cut);
        due(2, "FULL takes no part of the twenty", cut.count(2), 1981);
        cut.end(1980);
        due(2, "room again behind end", feedB(cut) + " " + feedB(cut), "2000 -3");
    }

    private static void endBrim() {
        SpellTurner x = new SpellTurner();
        due(3, "0 of nothing", x.end(0), 0);
        due(3, "1 of nothing", x.end(1), NONE);
        due(3, "-1 of nothing", x.end(-1), NONE);
        Kit.put(x, "abcdefghijklmnopqrst");
        due(3, "above by one", x.end(21) + " " + x.count(2), "-1 20");
        due(3, "below by one", x.end(-1) + " " + x.count(2), "-1 20");
        for (int far : Kit.FAR) {
            due(3, far + " leaves the tape", x.end(far) + " " + x.count(2), "-1 20");
        }
        due(3, "all of it", x.end(20) + " " + x.count(2), "20 20");
        due(3, "less by one", x.end(19) + " " + x.count(2), "19 19");
        due(3, "no way back", x.end(20) + " " + x.count(2), "-1 19");
        due(3, "three", x.end(3) + " " + x.count(2), "3 3");
        due(3, "the first, not the last", x.learn() + " " + Kit.spell(i -> x.word(0, i)), "0 abc");
        due(3, "of a tape that was read", x.end(3) + " " + x.end(1) + " " + x.end(0), "-1 -1 0");
        Kit.put(x, "abc");
        due(3, "none of it", x.end(0) + " " + x.count(2), "0 0");
        SpellTurner full = fedTo(2000);
        due(3, "above a full tape", full.end(2001) + " " + full.end(2000) + " " + full.end(1999) + " " + full.end(2000), "-1 2000 1999 -1");
    }

    /** Terms I, 'each call that reads it empties it': whatever the call answers. */
    private static void tapeIsEmptiedByReform() {
        SpellTurner x = new SpellTurner();
        due(4, "a day below empties the tape", Kit.put(x, "keep").reform(-1) + " " + x.count(2), "-2 0");
        due(4, "a fault empties the tape", Kit.put(x, "keep").reform(1) + " " + x.count(2), "-1 0");
        for (int r = 0; r < 6; r++) {
            due(4, "a reform empties the tape", Kit.put(x, "part 'a';").reform(r) + " " + x.count(2), r + " 0");
        }
        due(4, "FULL empties the tape", Kit.put(x, "part 'a';").reform(6) + " " + x.count(2), "-3 0");
        due(4, "a day that was empties the tape", Kit.put(x, "part 'a';").reform(5) + " " + x.count(2), "-2 0");
    }

    private static void tapeIsEmptiedByWords() {
        SpellTurner x = Kit.withReforms("keep 'kk'; list 'll' to 'm'; part 'a';");
        due(8, "turn empties the tape", Kit.put(x, "a").turn(0, 1) + " " + x.count(2), "1 0");
        due(8, "no such stages, empty", Kit.put(x, "a").turn(1, 0) + " " + x.count(2), "-2 0");
        due(8, "no such word, empty", Kit.put(x, "A").turn(0, 1) + " " + x.count(2), "-2 0");
        due(10, "partings empties the tape", Kit.put(x, "aa").partings(0) + " " + x.count(2), "1 0");
        due(10, "kept, empty", Kit.put(x, "kk").partings(0) + " " + x.count(2), "-10 0");
        due(10, "listed, empty", Kit.put(x, "ll").partings(0) + " " + x.count(2), "-11 0");
        due(10, "no such reform, empty", Kit.put(x, "a").partings(1) + " " + x.count(2), "-2 0");
        due(10, "no such word, empty", Kit.put(x, "A").partings(0) + " " + x.count(2), "-2 0");
        due(12, "learn empties the tape", Kit.put(x, "a").learn() + " " + x.count(2), "0 0");
        due(12, "known, empty", Kit.put(x, "a").learn() + " " + x.count(2), "0 0");
        due(12, "no such word, empty", Kit.put(x, "a a").learn() + " " + x.count(2), "-2 0");
        due(14, "back empties the tape", Kit.put(x, "a").back(1) + " " + x.count(2), "1 0");
        due(14, "no such stage, empty", Kit.put(x, "a").back(2) + " " + x.count(2), "-2 0");
        due(14, "no such word, empty", Kit.put(x, "a;").back(1) + " " + x.count(2), "-2 0");
    }

    private static void tapeIsEmptiedByTexts() {
        SpellTurner x = Kit.withReforms("law 'a' to '" + A16 + "';");
        due(21, "write empties the tape", Kit.put(x, "b B").write(0, 1) + " " + x.count(2), "3 0");
        due(21, "no such stages, empty", Kit.put(x, "b B").write(1, 0) + " " + x.count(2), "-2 0");
        due(21, "byte 0, empty", Kit.put(x, "b\0").write(0, 1) + " " + x.count(2), "-1 0");
        due(21, "too long, empty", Kit.put(x, "a ".repeat(150)).write(0, 1) + " " + x.count(2), "-1 0");
        due(24, "mixed empties the tape", Kit.put(x, "b B").mixed(1) + " " + x.count(2), "1 0");
        due(24, "no such price, empty", Kit.put(x, "b B").mixed(51) + " " + x.count(2), "-2 0");
        due(24, "byte 0, empty", Kit.put(x, "b\0").mixed(1) + " " + x.count(2), "-1 0");
        due(24, "41 lines, empty", Kit.put(x, "\n".repeat(40)).mixed(1) + " " + x.count(2), "-1 0");
    }

    private static void tapeIsLeftByOthers() {
        SpellTurner x = Kit.learn(Kit.withReforms("law 'a' to 'b';"), "abc", "bbc");
        Kit.put(x, "abc");
        x.end(4);
        x.fault(0);
        x.about(0, 0);
        x.stage(5);
        x.form(0, 0);
        x.parting(0, 0);
        x.word(0, 0);
        x.old(0);
        x.collisions(1);
        x.collision(0);
        x.rhymes(1);
        x.tell(1, 0);
        x.uses(0, 0);
        x.written(0);
        x.counted(0);
        x.line(0);
        x.count(2);
        due(2, "calls that don't read the tape leave it", x.count(2) + " " + x.learn(), "3 0");
    }

    private static void days() {
        due(4, "day 0", Kit.put(new SpellTurner(), "").reform(0), 0);
        due(4, "day 100000", Kit.put(new SpellTurner(), "").reform(100000), 0);
        due(4, "day -1", Kit.put(new SpellTurner(), "").reform(-1), RANGE);
        due(4, "day 100001", Kit.put(new SpellTurner(), "").reform(100001), RANGE);
        for (int far : Kit.FAR) {
            due(4, "day " + far, Kit.put(new SpellTurner(), "").reform(far), far == 1000 ? 0 : RANGE);
        }
        SpellTurner x = new SpellTurner();
        x.reform(10);
        due(4, "the day before", x.reform(9), RANGE);
        due(4, "the same day", x.reform(10), RANGE);
        due(4, "the next day", x.reform(11), 1);
        due(4, "the last day", x.reform(100000), 2);
        due(4, "none behind the last", x.reform(99999) + " " + x.reform(100000) + " " + x.reform(100001), "-2 -2 -2");
        due(4, "those have left nothing", x.count(0) + " " + x.about(3, 0), "3 -1");
    }

    private static void daysThatAreNotTaken() {
        SpellTurner x = new SpellTurner();
        due(4, "a fault's day doesn't count", Kit.fault(x, "x", 50) + " " + Kit.fault(x, "", 0), "-1 1 0 0 0 -1");
        due(4, "a refused day doesn't count", Kit.put(x, "").reform(100001) + " " + Kit.put(x, "").reform(1), "-2 1");
        for (int r = 2; r < 6; r++) {
            x.reform(r);
        }
        due(4, "the day of a FULL one doesn't count", x.reform(100000) + " " + x.reform(6), "-3 -3");
    }

    private static void sixReforms() {
        SpellTurner x = new SpellTurner();
        for (int r = 0; r < 6; r++) {
            due(4, "reform " + r, Kit.put(x, "keep 'a';").reform(10 * r) + " " + x.count(0), r + " " + (r + 1));
        }
        due(4, "the seventh", Kit.put(x, "keep 'a';").reform(60), FULL);
        due(4, "it leaves nothing", x.count(0) + " " + x.about(5, 0) + " " + x.about(6, 0) + " " + x.stage(100000), "6 50 -1 6");
        due(4, "a fault is told ahead of FULL", Kit.put(x, "keep").reform(60), NONE);
        due(4, "a day is told ahead of FULL", Kit.put(x, "keep 'a';").reform(50), RANGE);
        due(4, "a day is told ahead of a fault", Kit.put(x, "keep").reform(50) + " " + Kit.put(x, "keep").reform(100001), "-2 -2");
        due(4, "all six turn", Kit.turned(x, "a", 0, 6) + " " + Kit.turned(x, "a", 0, 7), "a RANGE");
    }

    private static void longestText() {
        String item = "part 'a'";
        due(4, "2000 bytes", Kit.fault(new SpellTurner(), item + ";" + " ".repeat(1991), 1), "0 0 -1");
        due(4, "its last byte is read", Kit.fault(new SpellTurner(), item + "\n".repeat(1991) + ";", 1), "0 0 -1");
        due(5, "the last place of a full tape", Kit.fault(new SpellTurner(), item + ";" + " ".repeat(1990) + "x", 1), "-1 1 1999");
        due(5, "the end of a full tape", Kit.fault(new SpellTurner(), item + " ".repeat(1992), 1), "-1 1 2000");
        due(5, "a word of 2000 letters", Kit.fault(new SpellTurner(), "a".repeat(2000), 1), "-1 1 0");
        due(5, "letters that a full tape doesn't end", Kit.fault(new SpellTurner(), " ".repeat(1994) + "part '", 1), "-1 1 1999");
        SpellTurner x = new SpellTurner();
        Kit.put(x, "keep 'a';   keep 'b'");
        x.end(9);
        due(4, "what end took is not read", x.reform(1) + " " + x.about(0, 3), "0 1");
    }

    private static void emptyTexts() {
        SpellTurner x = new SpellTurner();
        due(4, "nothing", Kit.fault(x, "", 1), "0 0 -1");
        due(4, "blanks alone", Kit.fault(x, " \n\n  ", 2), "1 0 -1");
        due(5, "a ; alone", Kit.fault(x, " ;", 3), "-1 1 1");
        due(6, "none of each", x.about(1, 1) + " " + x.about(1, 2) + " " + x.about(1, 3) + " " + x.about(1, 4), "0 0 0 0");
        due(8, "an empty reform leaves a word", Kit.turned(x, "abc", 0, 2), "abc");
    }

    private static void faultAhead() {
        SpellTurner x = new SpellTurner();
        due(5, "ahead of any", x.fault(0) + " " + x.fault(1), "0 -1");
        Kit.put(x, "x").reform(-1);
        due(5, "RANGE is not told of", x.fault(0) + " " + x.fault(1), "0 -1");
        for (int far : Kit.FAR) {
            due(5, "what " + far, x.fault(far), NONE);
        }
        due(5, "what -1 and 2", x.fault(-1) + " " + x.fault(2), "-1 -1");
        Kit.put(x, "  x").reform(1);
        due(5, "of a fault", x.fault(0) + " " + x.fault(1) + " " + x.fault(-1) + " " + x.fault(2), "1 2 -1 -1");
        for (int far : Kit.FAR) {
            due(5, "what " + far + " behind a fault", x.fault(far), NONE);
        }
    }

    private static void faultOfTheLatest() {
        SpellTurner x = new SpellTurner();
        due(5, "a fault", Kit.fault(x, "keep ''", 5), "-1 2 5");
        due(5, "RANGE leaves it", Kit.fault(x, "", -1), "-2 2 5");
        due(5, "another fault", Kit.fault(x, "\nkeep;", 5), "-1 1 5");
        due(5, "a good one has none", Kit.fault(x, "", 5), "0 0 -1");
        due(5, "RANGE leaves that too", Kit.fault(x, "x", 5), "-2 0 -1");
        for (int r = 1; r < 6; r++) {
            x.reform(5 + r);
        }
        due(5, "a fault ahead of FULL", Kit.fault(x, "part 'a'; part 'a';", 20), "-1 3 15");
        due(5, "FULL has none", Kit.fault(x, "part 'a';", 20), "-3 0 -1");
    }

    /** Each text is ended ahead of each of its tokens, and has each wrong token in each place. */
    private static void faultAtEachToken() {
        String[][] texts = {
            {"keep", "'aa'", ";"},
            {"part", "'aa'", ";"},
            {"list", "'aa'", "to", "'b'", ";"},
            {"law", "'aa'", "to", "'b'", "start", "end", "after", "'c'", "before", "'d'", ";"},
            {"law", "'aa'", "to", "''", "before", "'d'", "end", "after", "'c'", "start", ";"},
        };
        String[] wrong = {"x", "'q'", ";", "keep", "to", "start", "before", "after", "end", "!", "'", "'A'", "7", "\0",
            "tos", "keeps", "la", "jeep", "keeq", "mist", "lisp", "dart", "park", "saw", "lax", "do", "ta",
            "xtart", "starx", "and", "enx", "bfter", "aftex", "cefore", "befora"};
        for (String[] text : texts) {
            StringBuilder ahead = new StringBuilder();
            for (int t = 0; t < text.length; t++) {
                if (t > 0) {
                    due(5, "the end behind " + ahead, Kit.fault(new SpellTurner(), ahead.toString(), 1), "-1 1 " + ahead.length());
                }
                for (String one : wrong) {
                    if (!mayStand(text, t, one)) {
                        due(5, one + " behind " + ahead, Kit.fault(new SpellTurner(), ahead + one + " " + text[t], 1), "-1 1 " + ahead.length());
                    }
                }
                ahead.append(text[t]).append(t % 2 == 0 ? " " : "\n");
            }
            due(5, "the whole " + ahead, Kit.fault(new SpellTurner(), ahead.toString(), 1), "0 0 -1");
        }
    }

    /** Whether a token can stand in a place, or is a fault of another kind there. */
    private static boolean mayStand(String[] text, int t, String token) {
        boolean isSide = token.equals("start") || token.equals("end") || token.equals("after") || token.equals("before");
        if (t == 0) {
            return token.equals("keep");
        }
        if (text[t].startsWith("'")) {
            return token.equals("'q'");
        }
        if (text[t].equals("to")) {
            return token.equals("to");
        }
        return token.equals(";") || (isSide && text[0].equals("law"));
    }

    private static void faultOfLettersLength() {
        String[] heads = {"keep ", "part ", "list ", "law ", "list 'x' to ", "law 'x' to ", "law 'x' to 'y' after ", "law 'x' to 'y' before "};
        String[] tails = {";", ";", " to 'x';", " to 'x';", ";", ";", ";", ";"};
        for (int n = 0; n < heads.length; n++) {
            String head = heads[n];
            due(5, head + "1 letter", Kit.fault(new SpellTurner(), head + "'a'" + tails[n], 1), "0 0 -1");
            due(5, head + "16 letters", Kit.fault(new SpellTurner(), head + "'" + A16 + "'" + tails[n], 1), "0 0 -1");
            due(5, head + "17 letters", Kit.fault(new SpellTurner(), head + "'a" + A16 + "'" + tails[n], 1), "-1 1 " + head.length());
            due(5, head + "16 letters that don't end", Kit.fault(new SpellTurner(), head + "'" + A16, 1), "-1 1 " + head.length());
            due(5, head + "no letters that don't end", Kit.fault(new SpellTurner(), head + "'", 1), "-1 1 " + head.length());
            due(5, head + "letters up to a ;", Kit.fault(new SpellTurner(), head + "'a" + tails[n], 1), "-1 1 " + head.length());
            due(5, head + "a blank among letters", Kit.fault(new SpellTurner(), head + "'a a'" + tails[n], 1), "-1 1 " + head.length());
        }
        due(8, "all 16 letters count", Kit.turned(Kit.withReforms("list '" + A16 + "' to 'bcdefghijklmnopq';"), A16, 0, 1), "bcdefghijklmnopq");
    }

    private static void faultOfBytes() {
        due(5, "a and z", Kit.fault(new SpellTurner(), "keep 'az';", 1), "0 0 -1");
        for (int b = 0; b < 256; b++) {
            char one = (char) b;
            boolean small = b >= 97 && b <= 122;
            boolean blank = b == 32 || b == 10;
            if (!small && b != 39) {
                due(5, "byte " + b + " in letters", Kit.fault(new SpellTurner(), "keep 'a" + one + "';", 1), "-1 1 5");
            }
            if (!small && b != 39 && !blank) {
                due(5, "byte " + b + " between", Kit.fault(new SpellTurner(), "keep" + one + "'a';", 1), "-1 1 4");
                due(5, "byte " + b + " first", Kit.fault(new SpellTurner(), one + "keep 'a';", 1), "-1 1 0");
                due(5, "byte " + b + " last", Kit.fault(new SpellTurner(), "keep 'a';" + one, 1), "-1 1 9");
            }
            if (blank) {
                due(5, "blank " + b, Kit.fault(new SpellTurner(), one + "keep" + one + "'a'" + one + one + ";" + one, 1), "0 0 -1");
                due(5, "blank " + b + " in a word", Kit.fault(new SpellTurner(), "ke" + one + "ep 'a';", 1), "-1 1 0");
            }
        }
        due(5, "no blanks at all", Kit.fault(new SpellTurner(), "law'a'to'b'after'c'start before'd'end;list'a'to'';keep'b';part'c';", 1), "0 0 -1");
        due(5, "words are as long as letters go on", Kit.fault(new SpellTurner(), "law'a'to'b'startend;", 1), "-1 1 11");
    }

    private static void faultOfEmptyLetters() {
        due(5, "keep", Kit.fault(new SpellTurner(), "keep '';", 1), "-1 2 5");
        due(5, "part", Kit.fault(new SpellTurner(), "part '';", 1), "-1 2 5");
        due(5, "list", Kit.fault(new SpellTurner(), "list '' to '';", 1), "-1 2 5");
        due(5, "law", Kit.fault(new SpellTurner(), "law '' to '';", 1), "-1 2 4");
        due(5, "after", Kit.fault(new SpellTurner(), "law 'a' to '' after '';", 1), "-1 2 20");
        due(5, "before", Kit.fault(new SpellTurner(), "law 'a' to '' before '';", 1), "-1 2 21");
        due(5, "not those behind to", Kit.fault(new SpellTurner(), "list 'a' to ''; law 'a' to '';", 1), "0 0 -1");
    }

    private static void faultOfTwice() {
        String[] twice = {"keep 'ab';", "list 'ab' to 'x';", "list 'ab' to 'ab';"};
        for (String first : twice) {
            for (String second : twice) {
                due(5, first + second, Kit.fault(new SpellTurner(), first + second, 1), "-1 3 " + (first.length() + 5));
            }
            due(5, first + " once", Kit.fault(new SpellTurner(), first + "part 'ab'; keep 'a'; keep 'abc'; list 'b' to 'ab'; list 'x' to 'ab';", 1), "0 0 -1");
        }
        due(5, "part", Kit.fault(new SpellTurner(), "part 'ab'; part 'a'; part 'ab';", 1), "-1 3 26");
        due(5, "part once", Kit.fault(new SpellTurner(), "part 'ab'; part 'a'; part 'b'; part 'abc';", 1), "0 0 -1");
        due(5, "laws as often as they come", Kit.fault(new SpellTurner(), "law 'a' to 'b' start; law 'a' to 'b' start;", 1), "0 0 -1");
        String[] sides = {"start", "end", "after 'x'", "before 'x'"};
        for (String side : sides) {
            String law = "law 'a' to 'b' " + side + " ";
            due(5, side, Kit.fault(new SpellTurner(), law + side + ";", 1), "-1 3 " + law.length());
            String row = "law 'a' to 'b' start before 'y' after 'y' end ";
            due(5, side + " behind all four", Kit.fault(new SpellTurner(), row + side + ";", 1), "-1 3 " + row.length());
            due(5, side + " in two laws", Kit.fault(new SpellTurner(), law + ";" + law + ";", 1), "0 0 -1");
        }
        due(5, "after and before the same", Kit.fault(new SpellTurner(), "law 'a' to 'b' after 'x' before 'x';", 1), "0 0 -1");
        SpellTurner x = Kit.withReforms("keep 'a'; part 'a';");
        due(5, "in another reform", Kit.fault(x, "list 'a' to 'b'; part 'a';", 2), "1 0 -1");
        due(5, "a faulty text is forgotten", Kit.fault(x, "keep 'q'; part 'q'; x", 3) + " " + Kit.fault(x, "keep 'q'; part 'q';", 3), "-1 1 20 2 0 -1");
    }

    private static void faultyTextIsForgotten() {
        SpellTurner x = new SpellTurner();
        Kit.put(x, "law 'a' to 'b'; law 'b' to 'c'; keep 'q'; list 'r' to 's'; part 'a'; part 'b'; keep").reform(1);
        due(4, "a faulty text leaves no reform", x.count(0) + " " + x.about(0, 0), "0 -1");
        due(4, "nor its items to the next", Kit.put(x, "list 'q' to 'x'; keep 'r'; list 't' to 'u';").reform(1), 0);
        due(6, "the next one's own", x.about(0, 1) + " " + x.about(0, 2) + " " + x.about(0, 3) + " " + x.about(0, 4), "0 0 1 2");
        due(8, "the next one's words", Kit.turned(x, "a", 0, 1) + " " + Kit.turned(x, "q", 0, 1) + " " + Kit.turned(x, "r", 0, 1) + " " + Kit.turned(x, "t", 0, 1), "a x r u");
        for (int r = 1; r < 6; r++) {
            x.reform(1 + r);
        }
        Kit.put(x, "keep 'q'; part 'q'; law 'q' to 'z';").reform(50);
        due(4, "nor does a FULL one", x.about(5, 1) + " " + x.about(5, 2) + " " + x.about(5, 3) + " " + Kit.turned(x, "q", 1, 6), "0 0 0 q");
    }

    /** Items with letters of their own: keep, list and part may not come twice. */
    private static String items(int from, int to, String head, String tail) {
        StringBuilder all = new StringBuilder();
        for (int n = from; n < to; n++) {
            all.append(head).append((char) ('a' + n / 26)).append((char) ('a' + n % 26)).append(tail);
        }
        return all.toString();
    }

    private static void faultOfRoom() {
        String[] heads = {"law'", "part'", "keep'", "list'"};
        String[] tails = {"'to'';", "';", "';", "'to'';"};
        for (int n = 0; n < heads.length; n++) {
            String forty = items(0, 40, heads[n], tails[n]);
            due(5, "40 of " + heads[n], Kit.fault(new SpellTurner(), forty, 1), "0 0 -1");
            due(5, "41 of " + heads[n], Kit.fault(new SpellTurner(), items(0, 41, heads[n], tails[n]), 1), "-1 4 " + forty.length());
            due(5, "at its word: " + heads[n], Kit.fault(new SpellTurner(), forty + " \n" + heads[n] + "zz" + tails[n], 1), "-1 4 " + (forty.length() + 2));
            due(5, "ahead of what is behind it: " + heads[n], Kit.fault(new SpellTurner(), forty + heads[n] + "';", 1), "-1 4 " + forty.length());
            due(5, "the text ends behind it: " + heads[n], Kit.fault(new SpellTurner(), forty + heads[n].replace("'", ""), 1), "-1 4 " + forty.length());
        }
        String both = items(0, 20, "keep'", "';") + items(20, 40, "list'", "'to'';");
        due(5, "keep and list together", Kit.fault(new SpellTurner(), both + "keep'zz';", 1), "-1 4 " + both.length());
        due(5, "list and keep together", Kit.fault(new SpellTurner(), both + "list'zz'to'a';", 1), "-1 4 " + both.length());
        String all = both + items(0, 40, "law'", "'to'';") + items(0, 40, "part'", "';");
        SpellTurner x = new SpellTurner();
        due(5, "40 of all", Kit.fault(x, all, 1), "0 0 -1");
        due(6, "40 of all", x.about(0, 1) + " " + x.about(0, 2) + " " + x.about(0, 3) + " " + x.about(0, 4), "40 40 20 20");
        due(5, "room is of one reform", Kit.fault(x, all, 2), "1 0 -1");
    }

    private static void faultThatIsFirst() {
        due(5, "TWICE ahead of SYNTAX behind it", Kit.fault(new SpellTurner(), "part 'a'; part 'a' x", 1), "-1 3 15");
        due(5, "EMPTY ahead of SYNTAX behind it", Kit.fault(new SpellTurner(), "part '' x", 1), "-1 2 5");
        due(5, "SYNTAX ahead of EMPTY behind it", Kit.fault(new SpellTurner(), "part x ''", 1), "-1 1 5");
        due(5, "TWICE ahead of EMPTY behind it", Kit.fault(new SpellTurner(), "law 'a' to '' after 'a' after '';", 1), "-1 3 24");
        String forty = items(0, 40, "law'", "'to'';");
        due(5, "ROOM ahead of SYNTAX behind it", Kit.fault(new SpellTurner(), forty + "law x", 1), "-1 4 " + forty.length());
        due(5, "of one token SYNTAX ahead of ROOM", Kit.fault(new SpellTurner(), forty + "keep law", 1), "-1 1 " + (forty.length() + 5));
        String kept = items(0, 40, "keep'", "';");
        due(5, "no item, no ROOM", Kit.fault(new SpellTurner(), kept + "part 'a' list", 1), "-1 1 " + (kept.length() + 9));
    }

    private static void about() {
        SpellTurner x = new SpellTurner();
        Kit.put(x, "keep 'a';").reform(0);
        Kit.put(x, "list 'a' to ''; list 'b' to 'c'; part 'a'; part 'b'; part 'c'; law 'a' to 'b'; keep 'd'; keep 'e'; keep 'f'; keep 'g';").reform(100000);
        due(6, "day 0", x.about(0, 0), 0);
        due(6, "laws, parts, kept, listed of 0", x.about(0, 1) + " " + x.about(0, 2) + " " + x.about(0, 3) + " " + x.about(0, 4), "0 0 1 0");
        due(6, "day 100000", x.about(1, 0), 100000);
        due(6, "laws, parts, kept, listed of 1", x.about(1, 1) + " " + x.about(1, 2) + " " + x.about(1, 3) + " " + x.about(1, 4), "1 3 4 2");
        due(6, "reforms -1 and 2", x.about(-1, 0) + " " + x.about(2, 0), "-1 -1");
        due(6, "what -1 and 5", x.about(0, -1) + " " + x.about(0, 5), "-1 -1");
        for (int far : Kit.FAR) {
            due(6, "far " + far, x.about(far, 0) + " " + x.about(0, far) + " " + x.about(far, far), "-1 -1 -1");
        }
    }

    private static void stage() {
        SpellTurner x = new SpellTurner();
        due(7, "days that can't be, without reforms", x.stage(-1) + " " + x.stage(100001), "-2 -2");
        due(7, "days without reforms", x.stage(0) + " " + x.stage(100000), "0 0");
        x.reform(1);
        x.reform(10);
        x.reform(11);
        x.reform(99999);
        x.reform(100000);
        due(7, "ahead of the first", x.stage(0), 0);
        due(7, "on the first day", x.stage(1), 1);
        due(7, "around the second and third", x.stage(9) + " " + x.stage(10) + " " + x.stage(11) + " " + x.stage(12), "1 2 3 3");
        due(7, "around the last", x.stage(99998) + " " + x.stage(99999) + " " + x.stage(100000), "3 4 5");
        due(7, "days that can't be", x.stage(-1) + " " + x.stage(100001), "-2 -2");
        for (int far : Kit.FAR) {
            due(7, "far " + far, x.stage(far), far == 1000 ? 3 : RANGE);
        }
        SpellTurner early = new SpellTurner();
        for (int r = 0; r < 6; r++) {
            early.reform(r);
        }
        due(7, "a reform on day 0", early.stage(0), 1);
        due(7, "behind all six", early.stage(4) + " " + early.stage(5) + " " + early.stage(6), "5 6 6");
    }

    private static void count() {
        SpellTurner x = Kit.learn(Kit.withReforms("", ""), "a", "b", "c");
        Kit.put(x, "abcd");
        due(26, "each", x.count(0) + " " + x.count(1) + " " + x.count(2), "2 3 4");
        due(26, "-1 and 3", x.count(-1) + " " + x.count(3), "-1 -1");
        for (int far : Kit.FAR) {
            due(26, "far " + far, x.count(far), NONE);
        }
        due(26, "a full tape", fedTo(2000).count(2), 2000);
    }
}
