import java.nio.charset.StandardCharsets;
import java.util.Random;

/** Random runs of calls, told to the class and to the model; every answer must be the same. */
public final class ModelTest {
    private static final int RUNS = 1500;
    private static final String[] STRAYS = {"", ";", "'", "keep", "to", "start", "end", "after", "x", "''", "A", "\t", "'abcdefghijklmnopq'"};

    private final Random random;
    private final int run;
    private final SpellTurner x = new SpellTurner();
    private final Model m = new Model();
    private final String letters;
    /** In some runs laws write long and there are many parts, so that words grow too long and have many forms. */
    private final boolean wide;
    private int calls = 0;
    private int day = 0;

    private ModelTest(int run) {
        this.run = run;
        // Seeds that lie close together begin alike, so they are spread.
        random = new Random(run * 0x9E3779B97F4A7C15L);
        wide = random.nextInt(4) == 0;
        letters = "abcdefgh".substring(0, 1 + random.nextInt(wide ? 2 : 4));
    }

    public static void main(String[] args) {
        for (int run = 0; run < RUNS; run++) {
            new ModelTest(run).play();
        }
        Kit.close();
    }

    private void due(String call, int got, int want) {
        calls++;
        Kit.due("run " + run + ", call " + calls + ": " + call, got, want);
    }

    private void play() {
        int first = random.nextInt(4);
        for (int r = 0; r < first; r++) {
            reform();
        }
        int words = random.nextInt(12);
        for (int w = 0; w < words; w++) {
            load(word());
            due("learn", x.learn(), m.learn());
        }
        for (int n = 0; n < 25; n++) {
            step();
        }
    }

    private int upTo(int n) {
        return random.nextInt(n + 1);
    }

    /** Mostly a number from 0 up, at times one that can't be. */
    private int number(int n) {
        return random.nextInt(25) == 0 ? new int[] {-1, n + 1, Integer.MIN_VALUE, Integer.MAX_VALUE}[random.nextInt(4)] : upTo(n);
    }

    private String letters(int least, int most) {
        StringBuilder all = new StringBuilder();
        int n = least + random.nextInt(most - least + 1);
        for (int i = 0; i < n; i++) {
            all.append(letters.charAt(random.nextInt(letters.length())));
        }
        return all.toString();
    }

    private String word() {
        switch (random.nextInt(30)) {
            case 0: return letters(20, 26);
            case 1: return "";
            case 2: return letters(1, 3) + "A";
            case 3: case 4: case 5: return letters(8, 14);
            case 6: case 7: case 8: return letters(wide ? 6 : 1, wide ? 9 : 6);
            default: return letters(1, 6);
        }
    }

    private String told(int least, int most) {
        return "'" + letters(random.nextInt(60) == 0 ? 0 : least, random.nextInt(40) == 0 ? 16 : most) + "'";
    }

    private String item() {
        switch (random.nextInt(8)) {
            case 0: return "keep " + told(2, 5);
            case 1: return "list " + told(2, 5) + " to " + told(0, 5);
            case 2: case 3: case 4: return "part " + told(1, 3);
            default:
                StringBuilder law = new StringBuilder("law " + told(1, 2) + "to" + told(0, wide ? 12 : 3));
                law.append(random.nextInt(4) == 0 ? " start" : "").append(random.nextInt(4) == 0 ? " end" : "");
                law.append(random.nextInt(4) == 0 ? "\nafter" + told(1, 2) : "").append(random.nextInt(4) == 0 ? " before " + told(1, 2) : "");
                return law.append(random.nextInt(60) == 0 ? " start" : "").toString();
        }
    }

    private String reformText() {
        if (wide && random.nextBoolean()) {
            return manyForms();
        }
        StringBuilder text = new StringBuilder();
        int items = random.nextInt(random.nextInt(20) == 0 ? 90 : 9);
        for (int n = 0; n < items && text.length() < 1800; n++) {
            text.append(item()).append(random.nextBoolean() ? ";" : " ; ");
            if (random.nextInt(80) == 0) {
                text.append(STRAYS[random.nextInt(STRAYS.length)]);
            }
        }
        if (random.nextInt(30) == 0 && text.length() > 0) {
            text.setLength(random.nextInt(text.length()));
        }
        return text.toString();
    }

    /** Laws that look at the ends of parts: words have a form for nearly each of their partings. */
    private String manyForms() {
        StringBuilder text = new StringBuilder("part'a';part'aa';part'b';part'ba';");
        int laws = 1 + random.nextInt(4);
        for (int n = 0; n < laws; n++) {
            text.append("law").append(told(1, 1)).append("to").append(told(0, random.nextInt(3) == 0 ? 12 : 2));
            text.append(random.nextBoolean() ? "start;" : "end;");
        }
        return text.toString();
    }

    private void reform() {
        load(reformText());
        int next = random.nextInt(20) == 0 ? number(100000) : day + upTo(9);
        int answer = x.reform(next);
        due("reform " + next, answer, m.reform(next));
        if (answer >= 0) {
            day = next + 1;
        }
        for (int what = 0; what < 3; what++) {
            due("fault " + what, x.fault(what), m.fault(what));
        }
    }

    private void load(String text) {
        byte[] bytes = text.getBytes(StandardCharsets.ISO_8859_1);
        due("end 0", x.end(0), m.end(0));
        for (int at = 0; at < bytes.length; at += 20) {
            int[] fours = new int[5];
            for (int i = 0; i < 5; i++) {
                fours[i] = Kit.four(bytes, at + 4 * i);
            }
            due("feed", x.feed(fours[0], fours[1], fours[2], fours[3], fours[4]), m.feed(fours));
        }
        due("end of " + text, x.end(bytes.length), m.end(bytes.length));
    }

    private String text() {
        StringBuilder text = new StringBuilder();
        int pieces = random.nextInt(random.nextInt(12) == 0 ? 120 : 14);
        for (int n = 0; n < pieces && text.length() < 1900; n++) {
            text.append(word());
            text.append(" \n ,\" \u00e9\n  ".charAt(random.nextInt(10)));
        }
        return text.append(random.nextInt(40) == 0 ? "\0" : "").toString();
    }

    private void step() {
        int stages = m.count(0);
        int to = number(stages);
        int from = random.nextInt(8) == 0 ? number(stages) : random.nextInt(Math.max(1, Math.min(to, 8) + 1));
        switch (random.nextInt(13)) {
            case 0: reform(); break;
            case 1: load(word()); due("learn", x.learn(), m.learn()); break;
            case 2: load(word()); due("turn", x.turn(from, to), m.turn(from, to)); compareForms(); break;
            case 3: load(word()); due("partings", x.partings(from), m.partings(from)); comparePartings(); break;
            case 4: load(word()); due("back", x.back(to), m.back(to)); compareOld(); break;
            case 5: due("collisions", x.collisions(to), m.collisions(to)); compareCollisions(); break;
            case 6: due("rhymes", x.rhymes(to), m.rhymes(to)); break;
            case 7: compareTell(to); break;
            case 8: compareUses(from); break;
            case 9: load(text()); due("write", x.write(from, to), m.write(from, to)); compareWritten(); break;
            case 10: mixed(); break;
            case 11: compareSmall(); break;
            default: load(word()); due("turn", x.turn(0, to), m.turn(0, to)); compareForms(); break;
        }
        due("count(2)", x.count(2), m.count(2));
    }

    private void compareForms() {
        for (int k = -1; k < 13; k++) {
            for (int i = -1; i < 26; i++) {
                due("form " + k + " " + i, x.form(k, i), m.form(k, i));
            }
        }
    }

    private void comparePartings() {
        for (int k = -1; k < 32; k++) {
            for (int what = -1; what < 27; what++) {
                due("parting " + k + " " + what, x.parting(k, what), m.parting(k, what));
            }
        }
    }

    private void compareOld() {
        for (int i = -1; i < 102; i++) {
            due("old " + i, x.old(i), m.old(i));
        }
    }

    private void compareCollisions() {
        for (int i = -1; i < 205; i++) {
            due("collision " + i, x.collision(i), m.collision(i));
        }
    }

    private void compareTell(int stage) {
        for (int what = -1; what < 4; what++) {
            due("tell " + stage + " " + what, x.tell(stage, what), m.tell(stage, what));
        }
    }

    private void compareUses(int r) {
        for (int l = -1; l < 42; l++) {
            due("uses " + r + " " + l, x.uses(r, l), m.uses(r, l));
        }
    }

    private void compareWritten() {
        for (int i = -1; i < 2502; i++) {
            due("written " + i, x.written(i), m.written(i));
        }
        for (int what = -1; what < 6; what++) {
            due("counted " + what, x.counted(what), m.counted(what));
        }
    }

    private void mixed() {
        load(text());
        int price = random.nextInt(10) == 0 ? number(50) : upTo(3);
        due("mixed " + price, x.mixed(price), m.mixed(price));
        for (int i = -1; i < 42; i++) {
            due("line " + i, x.line(i), m.line(i));
        }
    }

    private void compareSmall() {
        int at = number(100000);
        due("stage " + at, x.stage(at), m.stage(at));
        due("stage " + day, x.stage(day), m.stage(day));
        for (int r = -1; r < 7; r++) {
            for (int what = -1; what < 6; what++) {
                due("about " + r + " " + what, x.about(r, what), m.about(r, what));
            }
        }
        for (int what = -1; what < 4; what++) {
            due("count " + what, x.count(what), m.count(what));
        }
        int w = number(m.count(1));
        for (int i = -1; i < 26; i++) {
            due("word " + w + " " + i, x.word(w, i), m.word(w, i));
        }
    }
}
