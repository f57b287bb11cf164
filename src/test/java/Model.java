import java.util.ArrayList;
import java.util.Arrays;
import java.util.LinkedHashMap;
import java.util.LinkedHashSet;
import java.util.List;
import java.util.Map;
import java.util.Set;
import java.util.TreeSet;

/** The document written a second time, plainly and with the Java library, for ModelTest to compare with. */
final class Model {
    static final int NONE = -1;
    static final int RANGE = -2;
    static final int FULL = -3;

    static final class Law {
        String first;
        String second;
        final Map<String, String> sides = new LinkedHashMap<>();
    }

    static final class Reform {
        int day;
        final List<Law> laws = new ArrayList<>();
        final List<String> parts = new ArrayList<>();
        final Map<String, String> entries = new LinkedHashMap<>();
        final Set<String> kept = new LinkedHashSet<>();
    }

    static final class Fault extends RuntimeException {
        private static final long serialVersionUID = 1L;
        final int kind;
        final int place;

        Fault(int kind, int place) {
            this.kind = kind;
            this.place = place;
        }
    }

    static final class Token {
        final char kind;
        final String text;
        final int place;
        final int end;

        Token(char kind, String text, int place, int end) {
            this.kind = kind;
            this.text = text;
            this.place = place;
            this.end = end;
        }
    }

    private String tape = "";
    private final List<Reform> reforms = new ArrayList<>();
    private int faultKind = 0;
    private int faultPlace = NONE;
    private List<String> forms = List.of();
    private List<List<String>> partings = List.of();
    private final List<String> book = new ArrayList<>();
    private List<Integer> owners = List.of();
    private List<Integer> pairs = List.of();
    private String written = "";
    private int[] counted = null;
    private List<Integer> lines = List.of();

    int feed(int... fours) {
        if (tape.length() + 20 > 2000) {
            return FULL;
        }
        for (int four : fours) {
            for (int shift = 24; shift >= 0; shift -= 8) {
                tape += (char) (four >>> shift & 255);
            }
        }
        return tape.length();
    }

    int end(int n) {
        if (n < 0 || n > tape.length()) {
            return NONE;
        }
        tape = tape.substring(0, n);
        return n;
    }

    private String take() {
        String taken = tape;
        tape = "";
        return taken;
    }

    // ---- reading reforms

    private static Token token(String text, int from) {
        int at = from;
        while (at < text.length() && (text.charAt(at) == ' ' || text.charAt(at) == '\n')) {
            at++;
        }
        if (at == text.length()) {
            return new Token('$', "", at, at);
        }
        if (text.charAt(at) == ';') {
            return new Token(';', ";", at, at + 1);
        }
        java.util.regex.Matcher word = java.util.regex.Pattern.compile("[a-z]+").matcher(text).region(at, text.length());
        if (word.lookingAt()) {
            return new Token('w', word.group(), at, word.end());
        }
        java.util.regex.Matcher letters = java.util.regex.Pattern.compile("'([a-z]{0,16})'").matcher(text).region(at, text.length());
        if (letters.lookingAt()) {
            return new Token('l', letters.group(1), at, letters.end());
        }
        return new Token('?', "", at, at + 1);
    }

    private static Token want(String text, Token before, char kind, String word) {
        Token next = token(text, before.end);
        if (next.kind != kind || (word != null && !next.text.equals(word))) {
            throw new Fault(1, next.place);
        }
        return next;
    }

    private static Token full(String text, Token before) {
        Token next = want(text, before, 'l', null);
        if (next.text.isEmpty()) {
            throw new Fault(2, next.place);
        }
        return next;
    }

    private static Reform parse(String text) {
        Reform reform = new Reform();
        Token token = token(text, 0);
        while (token.kind != '$') {
            if (token.kind != 'w' || !List.of("keep", "list", "part", "law").contains(token.text)) {
                throw new Fault(1, token.place);
            }
            int there = switch (token.text) {
                case "part" -> reform.parts.size();
                case "law" -> reform.laws.size();
                default -> reform.kept.size() + reform.entries.size();
            };
            if (there == 40) {
                throw new Fault(4, token.place);
            }
            Token name = full(text, token);
            Token last = name;
            boolean known = reform.kept.contains(name.text) || reform.entries.containsKey(name.text);
            switch (token.text) {
                case "keep" -> {
                    if (known) {
                        throw new Fault(3, name.place);
                    }
                    reform.kept.add(name.text);
                }
                case "list" -> {
                    if (known) {
                        throw new Fault(3, name.place);
                    }
                    last = want(text, want(text, name, 'w', "to"), 'l', null);
                    reform.entries.put(name.text, last.text);
                }
                case "part" -> {
                    if (reform.parts.contains(name.text)) {
                        throw new Fault(3, name.place);
                    }
                    reform.parts.add(name.text);
                }
                default -> {
                    Law law = new Law();
                    last = want(text, want(text, name, 'w', "to"), 'l', null);
                    law.first = name.text;
                    law.second = last.text;
                    last = sides(text, last, law);
                    reform.laws.add(law);
                }
            }
            token = token(text, want(text, last, ';', null).end);
        }
        return reform;
    }

    private static Token sides(String text, Token before, Law law) {
        Token last = before;
        for (Token side = token(text, last.end); side.kind != ';'; side = token(text, last.end)) {
            if (side.kind != 'w' || !List.of("start", "end", "after", "before").contains(side.text)) {
                throw new Fault(1, side.place);
            }
            if (law.sides.containsKey(side.text)) {
                throw new Fault(3, side.place);
            }
            boolean lettered = side.text.equals("after") || side.text.equals("before");
            last = lettered ? full(text, side) : side;
            law.sides.put(side.text, lettered ? last.text : "");
        }
        return last;
    }

    int reform(int day) {
        String text = take();
        int least = reforms.isEmpty() ? 0 : reforms.get(reforms.size() - 1).day + 1;
        if (day < least || day > 100000) {
            return RANGE;
        }
        faultKind = 0;
        faultPlace = NONE;
        try {
            Reform reform = parse(text);
            reform.day = day;
            if (reforms.size() == 6) {
                return FULL;
            }
            reforms.add(reform);
            return reforms.size() - 1;
        } catch (Fault fault) {
            faultKind = fault.kind;
            faultPlace = fault.place;
            return NONE;
        }
    }

    int fault(int what) {
        return what == 0 ? faultKind : what == 1 ? faultPlace : NONE;
    }

    int about(int r, int what) {
        if (r < 0 || r >= reforms.size() || what < 0 || what > 4) {
            return NONE;
        }
        Reform reform = reforms.get(r);
        return List.of(reform.day, reform.laws.size(), reform.parts.size(), reform.kept.size(), reform.entries.size()).get(what);
    }

    int stage(int day) {
        if (day < 0 || day > 100000) {
            return RANGE;
        }
        return (int) reforms.stream().filter(reform -> reform.day <= day).count();
    }

    // ---- turning words

    private static boolean isWord(String word) {
        return word.matches("[a-z]{1,24}");
    }

    private static void part(String rest, List<String> parts, List<String> path, List<List<String>> out) {
        if (out.size() == 30) {
            return;
        }
        if (rest.isEmpty()) {
            out.add(List.copyOf(path));
            return;
        }
        for (int n = 1; n <= rest.length(); n++) {
            if (parts.contains(rest.substring(0, n))) {
                path.add(rest.substring(0, n));
                part(rest.substring(n), parts, path, out);
                path.remove(path.size() - 1);
            }
        }
    }

    private static List<List<String>> partingsOf(String word, Reform reform) {
        List<List<String>> out = new ArrayList<>();
        part(word, reform.parts, new ArrayList<>(), out);
        return out;
    }

    private static String byLaw(String part, Law law, int number, Set<Integer> used) {
        String done = "";
        String rest = part;
        while (!rest.isEmpty()) {
            boolean stands = rest.startsWith(law.first)
                    && (!law.sides.containsKey("start") || done.isEmpty())
                    && (!law.sides.containsKey("end") || rest.equals(law.first))
                    && done.endsWith(law.sides.getOrDefault("after", ""))
                    && rest.substring(law.first.length()).startsWith(law.sides.getOrDefault("before", ""));
            if (stands) {
                used.add(number);
            }
            done += stands ? law.second : rest.substring(0, 1);
            rest = rest.substring(stands ? law.first.length() : 1);
        }
        return done;
    }

    private static String byLaws(String part, Reform reform, Set<Integer> used) {
        String now = part;
        for (int l = 0; l < reform.laws.size(); l++) {
            now = byLaw(now, reform.laws.get(l), l, used);
            if (now.length() > 24) {
                return null;
            }
        }
        return now;
    }

    private static Set<String> formsOf(String word, Reform reform, Set<Integer> used) {
        Set<String> out = new LinkedHashSet<>();
        if (reform.kept.contains(word)) {
            out.add(word);
        } else if (reform.entries.containsKey(word)) {
            out.add(reform.entries.get(word));
        } else {
            List<List<String>> ways = partingsOf(word, reform);
            for (List<String> way : ways.isEmpty() ? List.of(List.of(word)) : ways) {
                StringBuilder sum = new StringBuilder();
                boolean holds = true;
                for (int i = 0; i < way.size() && holds; i++) {
                    String turned = byLaws(way.get(i), reform, used);
                    holds = turned != null;
                    sum.append(turned);
                }
                if (holds && sum.length() <= 24) {
                    out.add(sum.toString());
                }
            }
        }
        out.remove("");
        return out;
    }

    private List<String> through(String word, int from, int to) {
        List<String> now = List.of(word);
        for (int r = from; r < to; r++) {
            Set<String> next = new LinkedHashSet<>();
            for (String form : now) {
                next.addAll(formsOf(form, reforms.get(r), new TreeSet<>()));
            }
            now = new ArrayList<>(next);
            now = now.subList(0, Math.min(12, now.size()));
        }
        return now;
    }

    private boolean noStages(int from, int to) {
        return from < 0 || from > to || to > reforms.size();
    }

    int turn(int from, int to) {
        String word = take();
        if (noStages(from, to) || !isWord(word)) {
            return RANGE;
        }
        forms = through(word, from, to);
        return forms.size();
    }

    private static int letter(List<String> words, int k, int i) {
        return k < 0 || k >= words.size() || i < 0 || i >= words.get(k).length() ? NONE : words.get(k).charAt(i);
    }

    int form(int k, int i) {
        return letter(forms, k, i);
    }

    int partings(int r) {
        String word = take();
        if (r < 0 || r >= reforms.size() || !isWord(word)) {
            return RANGE;
        }
        Reform reform = reforms.get(r);
        if (reform.kept.contains(word)) {
            return -10;
        }
        if (reform.entries.containsKey(word)) {
            return -11;
        }
        partings = partingsOf(word, reform);
        return partings.size();
    }

    int parting(int k, int what) {
        if (k < 0 || k >= partings.size() || what < 0 || what > partings.get(k).size()) {
            return NONE;
        }
        return what == 0 ? partings.get(k).size() : partings.get(k).get(what - 1).length();
    }

    // ---- the book

    int learn() {
        String word = take();
        if (!isWord(word)) {
            return RANGE;
        }
        if (!book.contains(word)) {
            if (book.size() == 100) {
                return FULL;
            }
            book.add(word);
        }
        return book.indexOf(word);
    }

    int word(int w, int i) {
        return letter(book, w, i);
    }

    int back(int to) {
        String word = take();
        if (noStages(0, to) || !isWord(word)) {
            return RANGE;
        }
        owners = new ArrayList<>();
        for (int w = 0; w < book.size(); w++) {
            if (through(book.get(w), 0, to).contains(word)) {
                owners.add(w);
            }
        }
        return owners.size();
    }

    int old(int i) {
        return i < 0 || i >= owners.size() ? NONE : owners.get(i);
    }

    int collisions(int stage) {
        pairs = new ArrayList<>();
        if (noStages(0, stage)) {
            return RANGE;
        }
        for (int w = 0; w < book.size(); w++) {
            Set<String> ours = new TreeSet<>(through(book.get(w), 0, stage));
            for (int v = w + 1; v < book.size(); v++) {
                if (through(book.get(v), 0, stage).stream().anyMatch(ours::contains)) {
                    pairs.add(1000 * w + v);
                }
            }
        }
        return pairs.size();
    }

    int collision(int i) {
        return i < 0 || i >= pairs.size() || i >= 200 ? NONE : pairs.get(i);
    }

    private static boolean rhyme(String a, String b) {
        return a.length() >= 3 && b.length() >= 3 && a.substring(a.length() - 3).equals(b.substring(b.length() - 3));
    }

    int rhymes(int stage) {
        if (noStages(0, stage)) {
            return RANGE;
        }
        int lost = 0;
        for (int w = 0; w < book.size(); w++) {
            for (int v = w + 1; v < book.size(); v++) {
                List<String> theirs = through(book.get(v), 0, stage);
                if (rhyme(book.get(w), book.get(v)) && through(book.get(w), 0, stage).stream()
                        .noneMatch(a -> theirs.stream().anyMatch(b -> rhyme(a, b)))) {
                    lost++;
                }
            }
        }
        return lost;
    }

    int tell(int stage, int what) {
        if (noStages(0, stage) || what < 0 || what > 2) {
            return RANGE;
        }
        int told = 0;
        for (String word : book) {
            List<String> there = through(word, 0, stage);
            boolean such = what == 0 ? there.size() >= 2 : what == 1 ? there.isEmpty() : there.equals(List.of(word));
            told += such ? 1 : 0;
        }
        return told;
    }

    int uses(int r, int l) {
        if (r < 0 || r >= reforms.size() || l < 0 || l >= reforms.get(r).laws.size()) {
            return RANGE;
        }
        int users = 0;
        for (String word : book) {
            Set<Integer> used = new TreeSet<>();
            for (String form : through(word, 0, r)) {
                formsOf(form, reforms.get(r), used);
            }
            users += used.contains(l) ? 1 : 0;
        }
        return users;
    }

    // ---- texts

    /** Pieces of a text: words outside quotes, and all else byte by byte. */
    private static List<String> pieces(String text) {
        List<String> out = new ArrayList<>();
        java.util.regex.Matcher piece = java.util.regex.Pattern
                .compile("\"[^\"]*(\"|\\z)|[A-Za-z]+|.", java.util.regex.Pattern.DOTALL).matcher(text);
        while (piece.find()) {
            out.add(piece.group());
        }
        return out;
    }

    private static boolean isTurned(String piece) {
        return piece.matches("[a-z]+");
    }

    int write(int from, int to) {
        String text = take();
        if (noStages(from, to)) {
            return RANGE;
        }
        if (text.indexOf(0) >= 0) {
            return NONE;
        }
        int[] tally = new int[5];
        StringBuilder out = new StringBuilder();
        for (String piece : pieces(text)) {
            String now = piece;
            if (isTurned(piece)) {
                List<String> there = piece.length() > 24 ? List.of() : through(piece, from, to);
                now = there.isEmpty() ? piece : there.get(0);
                tally[0]++;
                tally[1] += now.equals(piece) ? 0 : 1;
                tally[2] += there.size() >= 2 ? 1 : 0;
                tally[3] += there.isEmpty() ? 1 : 0;
            } else if (piece.matches("[A-Za-z]+")) {
                tally[4]++;
            }
            out.append(now);
        }
        if (out.length() > 2500) {
            return NONE;
        }
        written = out.toString();
        counted = tally;
        return written.length();
    }

    int written(int i) {
        return i < 0 || i >= written.length() ? NONE : written.charAt(i);
    }

    int counted(int what) {
        return counted == null || what < 0 || what > 4 ? NONE : counted[what];
    }

    int mixed(int price) {
        String text = take();
        if (price < 0 || price > 50) {
            return RANGE;
        }
        int count = text.split("\n", -1).length;
        if (text.indexOf(0) >= 0 || count > 40) {
            return NONE;
        }
        int[][] costs = new int[count][reforms.size() + 1];
        int at = 0;
        for (String piece : pieces(text)) {
            at += piece.split("\n", -1).length - 1;
            for (int s = 0; isTurned(piece) && s <= reforms.size(); s++) {
                int stage = s;
                costs[at][s] += book.stream().anyMatch(word -> through(word, 0, stage).contains(piece)) ? 0 : 1;
            }
        }
        return cheapest(costs, price);
    }

    /** Of each last stage the least cost and row of all lines so far: the rows are compared as texts. */
    private int cheapest(int[][] costs, int price) {
        int stages = costs[0].length;
        int[] sums = costs[0].clone();
        String[] rows = new String[stages];
        for (int s = 0; s < stages; s++) {
            rows[s] = "" + s;
        }
        for (int n = 1; n < costs.length; n++) {
            int[] nextSums = new int[stages];
            String[] nextRows = new String[stages];
            for (int s = 0; s < stages; s++) {
                for (int t = 0; t < stages; t++) {
                    int sum = sums[t] + (s == t ? 0 : price) + costs[n][s];
                    if (nextRows[s] == null || sum < nextSums[s] || (sum == nextSums[s] && (rows[t] + s).compareTo(nextRows[s]) < 0)) {
                        nextSums[s] = sum;
                        nextRows[s] = rows[t] + s;
                    }
                }
            }
            sums = nextSums;
            rows = nextRows;
        }
        int best = 0;
        for (int s = 1; s < stages; s++) {
            if (sums[s] < sums[best] || (sums[s] == sums[best] && rows[s].compareTo(rows[best]) < 0)) {
                best = s;
            }
        }
        lines = new ArrayList<>();
        for (char stage : rows[best].toCharArray()) {
            lines.add(stage - '0');
        }
        return sums[best];
    }

    int line(int i) {
        return i < 0 || i >= lines.size() ? NONE : lines.get(i);
    }

    int count(int what) {
        return what < 0 || what > 2 ? NONE : Arrays.asList(reforms.size(), book.size(), tape.length()).get(what);
    }
}
