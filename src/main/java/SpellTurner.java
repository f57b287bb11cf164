import java.util.Arrays;

/**
 * A turner of spellings: ../shared/DOC.md tells in numbered promises what each call answers.
 *
 * Rows are made with the object and used again, since all calls of a run share one room. What a
 * word of the book becomes at a stage is kept for good: neither words nor reforms ever change.
 */
public final class SpellTurner {
    public static final int NONE = -1;
    public static final int RANGE = -2;
    public static final int FULL = -3;

    private static final int KEPT = -10;
    private static final int LISTED = -11;

    private static final int TAPE_ROOM = 2000;
    private static final int PAGE_ROOM = 2500;
    private static final int MOST_REFORMS = 6;
    private static final int MOST_STAGES = MOST_REFORMS + 1;
    private static final int LAST_DAY = 100000;
    private static final int MOST_ITEMS = 40;
    private static final int LONGEST_LETTERS = 16;
    private static final int LONGEST_WORD = 24;
    private static final int MOST_PARTINGS = 30;
    private static final int MOST_FORMS = 12;
    private static final int MOST_WORDS = 100;
    private static final int MOST_PAIRS = 200;
    private static final int MOST_LINES = 40;
    private static final int HIGHEST_PRICE = 50;
    private static final int RHYMING_LETTERS = 3;

    private static final int BLANK = 32;
    private static final int NEW_LINE = 10;
    private static final int QUOTE = 34;
    private static final int TICK = 39;
    private static final int SEMICOLON = 59;

    private final Tape tape = new Tape();
    private final Reform[] reforms = new Reform[MOST_REFORMS];
    private int reformCount = 0;
    private int latestDay = -1;
    private Reform draft = new Reform();
    private final Reader reader = new Reader();
    private final Turner turner = new Turner();
    private final WordRow latestForms = new WordRow(MOST_FORMS, LONGEST_WORD);
    private final Partings latestPartings = new Partings();
    private final Book book = new Book();
    private final int[] owners = new int[MOST_WORDS];
    private int ownerCount = 0;
    private final int[] pairs = new int[MOST_PAIRS];
    private int pairCount = 0;
    private final TextWords textWords = new TextWords();
    private final Scribe scribe = new Scribe();
    private final Mixture mixture = new Mixture();

    public SpellTurner() {
    }

    public int feed(int a, int b, int c, int d, int e) {
        if (tape.length + 20 > TAPE_ROOM) {
            return FULL;
        }
        tape.append(a);
        tape.append(b);
        tape.append(c);
        tape.append(d);
        tape.append(e);
        return tape.length;
    }

    public int end(int n) {
        if (n < 0 || n > tape.length) {
            return NONE;
        }
        tape.length = n;
        return n;
    }

    public int reform(int day) {
        int length = tape.take();
        if (day <= latestDay || day > LAST_DAY) {
            return RANGE;
        }
        draft.clear(day);
        reader.read(tape.bytes, length, draft);
        if (reader.faultKind != 0) {
            return NONE;
        }
        if (reformCount >= MOST_REFORMS) {
            return FULL;
        }
        turner.turnParts(draft);
        reforms[reformCount] = draft;
        draft = new Reform();
        latestDay = day;
        reformCount++;
        return reformCount - 1;
    }

    public int fault(int what) {
        switch (what) {
            case 0: return reader.faultKind;
            case 1: return reader.faultPlace;
            default: return NONE;
        }
    }

    public int about(int r, int what) {
        Reform reform = reformAt(r);
        if (reform == null) {
            return NONE;
        }
        switch (what) {
            case 0: return reform.day;
            case 1: return reform.lawCount;
            case 2: return reform.parts.count;
            case 3: return reform.keptCount;
            case 4: return reform.entries.count - reform.keptCount;
            default: return NONE;
        }
    }

    public int stage(int day) {
        if (day < 0 || day > LAST_DAY) {
            return RANGE;
        }
        int reached = 0;
        for (int r = 0; r < reformCount; r++) {
            Reform reform = reforms[r];
            if (reform != null && reform.day <= day) {
                reached++;
            }
        }
        return reached;
    }

    public int turn(int from, int to) {
        int length = tape.take();
        if (!areStages(from, to) || !tape.isWord(length)) {
            return RANGE;
        }
        latestForms.copy(turner.through(reforms, from, to, tape.bytes, 0, length));
        return latestForms.count;
    }

    public int form(int k, int i) {
        return latestForms.letterAt(k, i);
    }

    public int partings(int r) {
        int length = tape.take();
        Reform reform = reformAt(r);
        if (reform == null || !tape.isWord(length)) {
            return RANGE;
        }
        int entry = reform.entries.find(tape.bytes, 0, length);
        if (entry != NONE) {
            return reform.isKept(entry) ? KEPT : LISTED;
        }
        latestPartings.find(reform.parts, tape.bytes, 0, length);
        return latestPartings.count;
    }

    public int parting(int k, int what) {
        if (k < 0 || k >= latestPartings.count || what < 0) {
            return NONE;
        }
        return what == 0 ? latestPartings.sizes[k] : latestPartings.lengthOf(k, what - 1);
    }

    public int learn() {
        int length = tape.take();
        if (!tape.isWord(length)) {
            return RANGE;
        }
        int known = book.words.find(tape.bytes, 0, length);
        if (known != NONE) {
            return known;
        }
        if (book.words.isFull()) {
            return FULL;
        }
        book.words.add(tape.bytes, 0, length);
        return book.words.count - 1;
    }

    public int word(int w, int i) {
        return book.words.letterAt(w, i);
    }

    public int back(int to) {
        int length = tape.take();
        if (!isStage(to) || !tape.isWord(length)) {
            return RANGE;
        }
        book.fill(to, reforms, turner);
        ownerCount = 0;
        for (int w = 0; w < book.words.count; w++) {
            if (book.formsAt(to, w).find(tape.bytes, 0, length) != NONE) {
                owners[ownerCount] = w;
                ownerCount++;
            }
        }
        return ownerCount;
    }

    public int old(int i) {
        return i < 0 || i >= ownerCount ? NONE : owners[i];
    }

    public int collisions(int stage) {
        // Promise 17 speaks of the latest call without 'that was not RANGE': a refused one has none.
        pairCount = 0;
        if (!isStage(stage)) {
            return RANGE;
        }
        book.fill(stage, reforms, turner);
        int found = 0;
        for (int w = 0; w < book.words.count; w++) {
            for (int v = w + 1; v < book.words.count; v++) {
                if (book.collide(stage, w, v)) {
                    notePair(1000 * w + v);
                    found++;
                }
            }
        }
        return found;
    }

    public int collision(int i) {
        return i < 0 || i >= pairCount ? NONE : pairs[i];
    }

    public int rhymes(int stage) {
        if (!isStage(stage)) {
            return RANGE;
        }
        book.fill(stage, reforms, turner);
        int lost = 0;
        for (int w = 0; w < book.words.count; w++) {
            for (int v = w + 1; v < book.words.count; v++) {
                if (book.words.endsAlike(w, book.words, v) && !book.formsRhyme(stage, w, v)) {
                    lost++;
                }
            }
        }
        return lost;
    }

    public int tell(int stage, int what) {
        if (!isStage(stage) || what < 0 || what > 2) {
            return RANGE;
        }
        book.fill(stage, reforms, turner);
        int told = 0;
        for (int w = 0; w < book.words.count; w++) {
            if (book.isSuch(stage, w, what)) {
                told++;
            }
        }
        return told;
    }

    public int uses(int r, int l) {
        Reform reform = reformAt(r);
        if (reform == null || l < 0 || l >= reform.lawCount) {
            return RANGE;
        }
        book.fill(r + 1, reforms, turner);
        int users = 0;
        for (int w = 0; w < book.words.count; w++) {
            if (book.usesLaw(r, w, l)) {
                users++;
            }
        }
        return users;
    }

    public int write(int from, int to) {
        int length = tape.take();
        if (!areStages(from, to)) {
            return RANGE;
        }
        if (tape.hasZero(length)) {
            return NONE;
        }
        textWords.begin(tape.bytes, length);
        scribe.begin();
        for (int n = 0; n < length && textWords.next(); n++) {
            if (textWords.isName) {
                scribe.leaveName();
            } else if (textWords.length > LONGEST_WORD) {
                scribe.leaveLost();
            } else {
                scribe.put(textWords, turner.through(reforms, from, to,
                        tape.bytes, textWords.start, textWords.length));
            }
        }
        return scribe.finish(tape.bytes, length);
    }

    public int written(int i) {
        return scribe.byteAt(i);
    }

    public int counted(int what) {
        return scribe.tallyOf(what);
    }

    public int mixed(int price) {
        int length = tape.take();
        if (price < 0 || price > HIGHEST_PRICE) {
            return RANGE;
        }
        int lines = tape.lines(length);
        if (tape.hasZero(length) || lines > MOST_LINES) {
            return NONE;
        }
        book.fill(reformCount, reforms, turner);
        mixture.begin(lines, reformCount + 1);
        textWords.begin(tape.bytes, length);
        for (int n = 0; n < length && textWords.next(); n++) {
            if (!textWords.isName) {
                chargeWord();
            }
        }
        return mixture.settle(price);
    }

    public int line(int i) {
        return mixture.stageOf(i);
    }

    public int count(int what) {
        switch (what) {
            case 0: return reformCount;
            case 1: return book.words.count;
            case 2: return tape.length;
            default: return NONE;
        }
    }

    private Reform reformAt(int r) {
        return r < 0 || r >= reformCount ? null : reforms[r];
    }

    private boolean isStage(int stage) {
        return stage >= 0 && stage <= reformCount;
    }

    private boolean areStages(int from, int to) {
        return isStage(from) && isStage(to) && from <= to;
    }

    private void notePair(int pair) {
        if (pairCount < MOST_PAIRS) {
            pairs[pairCount] = pair;
            pairCount++;
        }
    }

    private void chargeWord() {
        for (int s = 0; s <= reformCount; s++) {
            if (!book.hasForm(s, tape.bytes, textWords.start, textWords.length)) {
                mixture.charge(textWords.lineNumber, s);
            }
        }
    }

    /** The bytes that were fed and not yet read. */
    private static final class Tape {
        final byte[] bytes = new byte[TAPE_ROOM];
        int length = 0;

        void append(int four) {
            for (int shift = 24; shift >= 0 && length < TAPE_ROOM; shift -= 8) {
                bytes[length] = (byte) (four >> shift);
                length++;
            }
        }

        /** Empties the tape; its bytes stay readable up to the next feed. */
        int take() {
            int taken = length;
            length = 0;
            return taken;
        }

        boolean isWord(int size) {
            if (size < 1 || size > LONGEST_WORD) {
                return false;
            }
            for (int i = 0; i < size; i++) {
                if (!WordRow.isSmall(bytes[i])) {
                    return false;
                }
            }
            return true;
        }

        boolean hasZero(int size) {
            return occurrences(0, size) > 0;
        }

        int lines(int size) {
            return 1 + occurrences(NEW_LINE, size);
        }

        private int occurrences(int wanted, int size) {
            int found = 0;
            for (int i = 0; i < size && i < TAPE_ROOM; i++) {
                if (bytes[i] == wanted) {
                    found++;
                }
            }
            return found;
        }
    }

    /** Words side by side in one array, each with the same room, so that none can be missing. */
    private static final class WordRow {
        final int width;
        final byte[] letters;
        final int[] lengths;
        int count = 0;

        WordRow(int room, int width) {
            this.width = width;
            letters = new byte[room * width];
            lengths = new int[room];
        }

        static boolean isSmall(byte b) {
            return b >= 'a' && b <= 'z';
        }

        static boolean isCapital(byte b) {
            return b >= 'A' && b <= 'Z';
        }

        static boolean same(byte[] a, int aStart, byte[] b, int bStart, int length) {
            if (aStart < 0 || bStart < 0 || length > a.length - aStart || length > b.length - bStart) {
                return false;
            }
            for (int i = 0; i < length; i++) {
                if (a[aStart + i] != b[bStart + i]) {
                    return false;
                }
            }
            return true;
        }

        boolean isFull() {
            return count >= lengths.length;
        }

        void add(byte[] from, int start, int length) {
            if (isFull() || length < 0 || length > width || start < 0 || length > from.length - start) {
                return;
            }
            System.arraycopy(from, start, letters, count * width, length);
            lengths[count] = length;
            count++;
        }

        /** Forms come once each, and an empty word is none. */
        void addForm(byte[] from, int start, int length) {
            if (length > 0 && find(from, start, length) == NONE) {
                add(from, start, length);
            }
        }

        void copy(WordRow other) {
            count = 0;
            for (int k = 0; k < other.count; k++) {
                add(other.letters, k * other.width, other.lengths[k]);
            }
        }

        int find(byte[] from, int start, int length) {
            for (int k = 0; k < count; k++) {
                if (lengths[k] == length && same(letters, k * width, from, start, length)) {
                    return k;
                }
            }
            return NONE;
        }

        boolean standsIn(int k, byte[] text, int at) {
            return same(letters, k * width, text, at, lengths[k]);
        }

        boolean endsAlike(int k, WordRow other, int m) {
            int length = lengths[k];
            int otherLength = other.lengths[m];
            if (length < RHYMING_LETTERS || otherLength < RHYMING_LETTERS) {
                return false;
            }
            return same(letters, k * width + length - RHYMING_LETTERS,
                    other.letters, m * other.width + otherLength - RHYMING_LETTERS, RHYMING_LETTERS);
        }

        int letterAt(int k, int i) {
            if (k < 0 || k >= count || i < 0 || i >= lengths[k]) {
                return NONE;
            }
            return letters[k * width + i];
        }
    }

    /** A law; an empty row ahead or behind means that nothing is asked there. */
    private static final class Law {
        final byte[] first;
        final byte[] second;
        byte[] ahead = new byte[0];
        byte[] behind = new byte[0];
        boolean atStart = false;
        boolean atEnd = false;

        Law(byte[] first, byte[] second) {
            this.first = first;
            this.second = second;
        }

        /** What was written already counts as ahead, so start and after look at it alone. */
        boolean standsAt(byte[] part, int at, int length, byte[] done, int doneLength) {
            int rest = length - at - first.length;
            if (rest < 0 || (atStart && doneLength > 0) || (atEnd && rest > 0)) {
                return false;
            }
            if (ahead.length > doneLength || behind.length > rest) {
                return false;
            }
            return WordRow.same(first, 0, part, at, first.length)
                    && WordRow.same(ahead, 0, done, doneLength - ahead.length, ahead.length)
                    && WordRow.same(behind, 0, part, at + first.length, behind.length);
        }
    }

    /** A reform; what its laws make of its parts is the same in every word, so it is kept here. */
    private static final class Reform {
        int day = 0;
        final Law[] laws = new Law[MOST_ITEMS];
        int lawCount = 0;
        final WordRow parts = new WordRow(MOST_ITEMS, LONGEST_LETTERS);
        final WordRow entries = new WordRow(MOST_ITEMS, LONGEST_LETTERS);
        final WordRow becomes = new WordRow(MOST_ITEMS, LONGEST_LETTERS);
        final boolean[] kept = new boolean[MOST_ITEMS];
        int keptCount = 0;
        final WordRow turnedParts = new WordRow(MOST_ITEMS, LONGEST_WORD);
        final boolean[] partHolds = new boolean[MOST_ITEMS];
        final long[] partUses = new long[MOST_ITEMS];

        void clear(int newDay) {
            day = newDay;
            lawCount = 0;
            parts.count = 0;
            entries.count = 0;
            becomes.count = 0;
            keptCount = 0;
            turnedParts.count = 0;
        }

        boolean isKept(int entry) {
            return entry >= 0 && entry < MOST_ITEMS && kept[entry];
        }

        void addLaw(Law law) {
            if (lawCount < MOST_ITEMS) {
                laws[lawCount] = law;
                lawCount++;
            }
        }

        /** A kept word becomes nothing, so that entries and what they become stay side by side. */
        void addKept(byte[] from, int start, int length) {
            addEntry(from, start, length, true);
            becomes.add(from, start, 0);
        }

        void addListed(byte[] from, int start, int length) {
            addEntry(from, start, length, false);
        }

        /** Tells of each entry whether it is kept: a draft that is used again may hold another answer. */
        private void addEntry(byte[] from, int start, int length, boolean stays) {
            if (!entries.isFull()) {
                kept[entries.count] = stays;
                keptCount += stays ? 1 : 0;
                entries.add(from, start, length);
            }
        }
    }

    /** Reads the text of a reform, token by token, up to the first fault. */
    private static final class Reader {
        private static final int SYNTAX = 1;
        private static final int EMPTY = 2;
        private static final int TWICE = 3;
        private static final int ROOM = 4;

        private static final int TEXT_END = 0;
        private static final int WORD = 1;
        private static final int LETTERS = 2;
        private static final int CLOSE = 3;
        private static final int BAD = 4;

        int faultKind = 0;
        int faultPlace = NONE;
        private byte[] text = new byte[0];
        private int size = 0;
        private int at = 0;
        private int token = TEXT_END;
        private int place = 0;
        private int start = 0;
        private int length = 0;

        void read(byte[] bytes, int textSize, Reform reform) {
            text = bytes;
            size = Math.min(textSize, bytes.length);
            at = 0;
            faultKind = 0;
            faultPlace = NONE;
            for (int items = 0; items <= size && faultKind == 0; items++) {
                nextToken();
                if (token == TEXT_END) {
                    return;
                }
                if (wordIs("keep")) {
                    readKeep(reform);
                } else if (wordIs("list")) {
                    readList(reform);
                } else if (wordIs("part")) {
                    readPart(reform);
                } else if (wordIs("law")) {
                    readLaw(reform);
                } else {
                    blame(SYNTAX);
                }
            }
        }

        private void readKeep(Reform reform) {
            if (hasRoom(!reform.entries.isFull()) && takeNew(reform.entries)) {
                reform.addKept(text, start, length);
                takeClose();
            }
        }

        private void readList(Reform reform) {
            if (hasRoom(!reform.entries.isFull()) && takeNew(reform.entries)) {
                reform.addListed(text, start, length);
                if (takeTo() && takeLetters(true)) {
                    reform.becomes.add(text, start, length);
                    takeClose();
                }
            }
        }

        private void readPart(Reform reform) {
            if (hasRoom(!reform.parts.isFull()) && takeNew(reform.parts)) {
                reform.parts.add(text, start, length);
                takeClose();
            }
        }

        private void readLaw(Reform reform) {
            if (!hasRoom(reform.lawCount < MOST_ITEMS) || !takeLetters(false)) {
                return;
            }
            byte[] first = letters();
            if (!takeTo() || !takeLetters(true)) {
                return;
            }
            Law law = new Law(first, letters());
            // Four sides can be told once each: the fifth token closes the law or is a fault.
            for (int n = 0; n < 5 && faultKind == 0; n++) {
                nextToken();
                if (token == CLOSE) {
                    reform.addLaw(law);
                    return;
                }
                readSide(law);
            }
        }

        private void readSide(Law law) {
            if (wordIs("start")) {
                if (isNew(!law.atStart)) {
                    law.atStart = true;
                }
            } else if (wordIs("end")) {
                if (isNew(!law.atEnd)) {
                    law.atEnd = true;
                }
            } else if (wordIs("after")) {
                if (isNew(law.ahead.length == 0) && takeLetters(false)) {
                    law.ahead = letters();
                }
            } else if (wordIs("before")) {
                if (isNew(law.behind.length == 0) && takeLetters(false)) {
                    law.behind = letters();
                }
            } else {
                blame(SYNTAX);
            }
        }

        private boolean hasRoom(boolean room) {
            return room || blame(ROOM);
        }

        private boolean isNew(boolean untold) {
            return untold || blame(TWICE);
        }

        private boolean takeNew(WordRow known) {
            if (!takeLetters(false)) {
                return false;
            }
            return isNew(known.find(text, start, length) == NONE);
        }

        private boolean takeLetters(boolean mayBeEmpty) {
            nextToken();
            if (token != LETTERS) {
                return blame(SYNTAX);
            }
            return length > 0 || mayBeEmpty || blame(EMPTY);
        }

        private boolean takeTo() {
            nextToken();
            return wordIs("to") || blame(SYNTAX);
        }

        private boolean takeClose() {
            nextToken();
            return token == CLOSE || blame(SYNTAX);
        }

        /** Answers false always, so that a test can end in it. */
        private boolean blame(int kind) {
            faultKind = kind;
            faultPlace = place;
            return false;
        }

        private byte[] letters() {
            return Arrays.copyOfRange(text, start, start + length);
        }

        private boolean wordIs(String wanted) {
            if (token != WORD || length != wanted.length()) {
                return false;
            }
            for (int i = 0; i < length; i++) {
                if (text[start + i] != wanted.charAt(i)) {
                    return false;
                }
            }
            return true;
        }

        private void nextToken() {
            while (at < size && (text[at] == BLANK || text[at] == NEW_LINE)) {
                at++;
            }
            place = at;
            length = 0;
            if (at >= size) {
                token = TEXT_END;
            } else if (text[at] == SEMICOLON) {
                token = CLOSE;
                at++;
            } else if (text[at] == TICK) {
                at++;
                scanRun(LONGEST_LETTERS);
                token = at < size && text[at] == TICK ? LETTERS : BAD;
                at++;
            } else {
                scanRun(size);
                token = length > 0 ? WORD : BAD;
            }
        }

        private void scanRun(int most) {
            start = at;
            for (; at < size && length < most && WordRow.isSmall(text[at]); at++) {
                length++;
            }
        }
    }

    /** All ways to put a word together from parts, the shorter first part first. */
    private static final class Partings {
        private static final int STEPS = LONGEST_LETTERS + 1;

        int count = 0;
        final int[] sizes = new int[MOST_PARTINGS];
        private final byte[] picks = new byte[MOST_PARTINGS * LONGEST_WORD];
        private final byte[] fitting = new byte[LONGEST_WORD * STEPS];
        private final boolean[] closes = new boolean[LONGEST_WORD + 1];
        private final byte[] path = new byte[LONGEST_WORD];
        private WordRow parts = new WordRow(0, 0);

        void find(WordRow fromParts, byte[] letters, int start, int length) {
            count = 0;
            parts = fromParts;
            if (parts.count == 0 || length < 1 || length > LONGEST_WORD) {
                return;
            }
            closes[length] = true;
            for (int at = length - 1; at >= 0; at--) {
                markFitting(letters, start, at, length);
            }
            if (closes[0]) {
                walk(0, length, 0);
            }
        }

        int pick(int k, int i) {
            if (k < 0 || k >= count || i < 0 || i >= sizes[k]) {
                return NONE;
            }
            return picks[k * LONGEST_WORD + i];
        }

        int lengthOf(int k, int i) {
            int part = pick(k, i);
            return part < 0 || part >= parts.count ? NONE : parts.lengths[part];
        }

        /** Marks only parts behind which the rest can be made, so that the walk has no dead end. */
        private void markFitting(byte[] letters, int start, int at, int length) {
            closes[at] = false;
            Arrays.fill(fitting, at * STEPS, at * STEPS + STEPS, (byte) NONE);
            for (int p = 0; p < parts.count; p++) {
                int behind = at + parts.lengths[p];
                if (behind <= length && closes[behind] && parts.standsIn(p, letters, start + at)) {
                    fitting[at * STEPS + parts.lengths[p]] = (byte) p;
                    closes[at] = true;
                }
            }
        }

        private void walk(int at, int length, int depth) {
            if (count >= MOST_PARTINGS) {
                return;
            }
            if (at >= length) {
                note(depth);
                return;
            }
            for (int step = 1; step < STEPS && at + step <= length && depth < LONGEST_WORD; step++) {
                byte part = fitting[at * STEPS + step];
                if (part != NONE) {
                    path[depth] = part;
                    walk(at + step, length, depth + 1);
                }
            }
        }

        private void note(int depth) {
            System.arraycopy(path, 0, picks, count * LONGEST_WORD, depth);
            sizes[count] = depth;
            count++;
        }
    }

    /** Turns words by reforms. */
    private static final class Turner {
        private static final int GROWN = LONGEST_WORD + LONGEST_LETTERS;

        private final Partings partings = new Partings();
        private byte[] now = new byte[GROWN];
        private byte[] next = new byte[GROWN];
        private int length = 0;
        private long used = 0;
        private final byte[] whole = new byte[LONGEST_WORD];
        private WordRow ahead = new WordRow(MOST_FORMS, LONGEST_WORD);
        private WordRow behind = new WordRow(MOST_FORMS, LONGEST_WORD);

        void turnParts(Reform reform) {
            WordRow parts = reform.parts;
            for (int p = 0; p < parts.count; p++) {
                boolean holds = runLaws(reform, parts.letters, p * parts.width, parts.lengths[p]);
                reform.partHolds[p] = holds;
                reform.partUses[p] = used;
                reform.turnedParts.add(now, 0, holds ? length : 0);
            }
        }

        /** The row that is answered is used again by the next call. */
        WordRow through(Reform[] reforms, int from, int to, byte[] text, int start, int size) {
            behind.count = 0;
            behind.addForm(text, start, size);
            for (int r = Math.max(from, 0); r < to && r < reforms.length; r++) {
                WordRow spare = ahead;
                ahead = behind;
                behind = spare;
                behind.count = 0;
                turnForms(reforms[r], ahead, behind);
            }
            return behind;
        }

        /** Turns every form, even when the row is full: the laws used are asked of all of them. */
        long turnForms(Reform reform, WordRow from, WordRow to) {
            long uses = 0;
            for (int k = 0; reform != null && k < from.count; k++) {
                uses |= turnWord(reform, from, k, to);
            }
            return uses;
        }

        private long turnWord(Reform reform, WordRow from, int k, WordRow to) {
            int start = k * from.width;
            int size = from.lengths[k];
            int entry = reform.entries.find(from.letters, start, size);
            if (entry != NONE) {
                addEntry(reform, entry, to);
                return 0;
            }
            partings.find(reform.parts, from.letters, start, size);
            if (partings.count == 0) {
                if (runLaws(reform, from.letters, start, size)) {
                    to.addForm(now, 0, length);
                }
                return used;
            }
            long uses = 0;
            for (int p = 0; p < partings.count; p++) {
                uses |= turnParting(reform, p, to);
            }
            return uses;
        }

        private void addEntry(Reform reform, int entry, WordRow to) {
            WordRow source = reform.isKept(entry) ? reform.entries : reform.becomes;
            if (entry < source.count) {
                to.addForm(source.letters, entry * source.width, source.lengths[entry]);
            }
        }

        /** Stops at a part that grew too long; the sum of the parts is looked at behind the last. */
        private long turnParting(Reform reform, int k, WordRow to) {
            WordRow turned = reform.turnedParts;
            long uses = 0;
            int size = 0;
            for (int i = 0; i < partings.sizes[k]; i++) {
                int part = partings.pick(k, i);
                if (part < 0 || part >= turned.count) {
                    return uses;
                }
                uses |= reform.partUses[part];
                if (!reform.partHolds[part]) {
                    return uses;
                }
                if (size + turned.lengths[part] <= LONGEST_WORD) {
                    System.arraycopy(turned.letters, part * turned.width, whole, size, turned.lengths[part]);
                }
                size += turned.lengths[part];
            }
            if (size <= LONGEST_WORD) {
                to.addForm(whole, 0, size);
            }
            return uses;
        }

        /** Whether the part never grew too long; the laws that found a place are told in used. */
        private boolean runLaws(Reform reform, byte[] text, int start, int size) {
            used = 0;
            length = Math.min(size, LONGEST_WORD);
            System.arraycopy(text, start, now, 0, length);
            for (int l = 0; l < reform.lawCount && length <= LONGEST_WORD; l++) {
                Law law = reform.laws[l];
                if (law != null && apply(law)) {
                    used |= 1L << l;
                }
            }
            return length <= LONGEST_WORD;
        }

        /** Goes no further than one letter too many: what is written never gets shorter. */
        private boolean apply(Law law) {
            boolean found = false;
            int done = 0;
            for (int at = 0; at < length && done <= LONGEST_WORD; at++) {
                if (law.standsAt(now, at, length, next, done)) {
                    System.arraycopy(law.second, 0, next, done, law.second.length);
                    done += law.second.length;
                    at += Math.max(law.first.length, 1) - 1;
                    found = true;
                } else {
                    next[done] = now[at];
                    done++;
                }
            }
            if (found) {
                byte[] spare = now;
                now = next;
                next = spare;
                length = done;
            }
            return found;
        }
    }

    /** The words of spelling 0, and what they are at each stage that was asked for. */
    private static final class Book {
        final WordRow words = new WordRow(MOST_WORDS, LONGEST_WORD);
        private final WordRow[] forms = new WordRow[MOST_STAGES * MOST_WORDS];
        private final long[] lawsUsed = new long[MOST_REFORMS * MOST_WORDS];
        private final int[] filled = new int[MOST_STAGES];
        private final WordRow spare = new WordRow(MOST_FORMS, LONGEST_WORD);
        private final WordRow nothing = new WordRow(0, 0);

        void fill(int stage, Reform[] reforms, Turner turner) {
            for (int s = 0; s <= stage && s < MOST_STAGES; s++) {
                for (int w = filled[s]; w < words.count; w++) {
                    spare.count = 0;
                    if (s == 0) {
                        spare.add(words.letters, w * words.width, words.lengths[w]);
                    } else {
                        lawsUsed[(s - 1) * MOST_WORDS + w] =
                                turner.turnForms(reforms[s - 1], formsAt(s - 1, w), spare);
                    }
                    WordRow row = new WordRow(spare.count, LONGEST_WORD);
                    row.copy(spare);
                    forms[s * MOST_WORDS + w] = row;
                }
                filled[s] = words.count;
            }
        }

        WordRow formsAt(int stage, int w) {
            WordRow row = forms[stage * MOST_WORDS + w];
            return row == null ? nothing : row;
        }

        boolean hasForm(int stage, byte[] text, int start, int length) {
            for (int w = 0; w < words.count; w++) {
                if (formsAt(stage, w).find(text, start, length) != NONE) {
                    return true;
                }
            }
            return false;
        }

        boolean collide(int stage, int w, int v) {
            WordRow ours = formsAt(stage, w);
            WordRow theirs = formsAt(stage, v);
            for (int k = 0; k < ours.count; k++) {
                if (theirs.find(ours.letters, k * ours.width, ours.lengths[k]) != NONE) {
                    return true;
                }
            }
            return false;
        }

        boolean formsRhyme(int stage, int w, int v) {
            WordRow ours = formsAt(stage, w);
            WordRow theirs = formsAt(stage, v);
            for (int k = 0; k < ours.count; k++) {
                for (int m = 0; m < theirs.count; m++) {
                    if (ours.endsAlike(k, theirs, m)) {
                        return true;
                    }
                }
            }
            return false;
        }

        boolean isSuch(int stage, int w, int what) {
            WordRow row = formsAt(stage, w);
            switch (what) {
                case 0: return row.count > 1;
                case 1: return row.count == 0;
                default: return row.count == 1
                        && row.find(words.letters, w * words.width, words.lengths[w]) != NONE;
            }
        }

        boolean usesLaw(int r, int w, int l) {
            return (lawsUsed[r * MOST_WORDS + w] >> l & 1) == 1;
        }
    }

    /** Goes through the words of a text that are not quoted. */
    private static final class TextWords {
        int start = 0;
        int length = 0;
        int lineNumber = 0;
        boolean isName = false;
        byte[] text = new byte[0];
        private int size = 0;
        private int at = 0;
        private boolean quoted = false;

        void begin(byte[] bytes, int textSize) {
            text = bytes;
            size = Math.min(textSize, bytes.length);
            at = 0;
            lineNumber = 0;
            quoted = false;
        }

        boolean next() {
            for (; at < size; at++) {
                byte b = text[at];
                if (b == NEW_LINE) {
                    lineNumber++;
                } else if (b == QUOTE) {
                    quoted = !quoted;
                } else if (!quoted && isLetter(b)) {
                    takeWord();
                    return true;
                }
            }
            return false;
        }

        private void takeWord() {
            start = at;
            isName = false;
            for (; at < size && isLetter(text[at]); at++) {
                isName = isName || WordRow.isCapital(text[at]);
            }
            length = at - start;
        }

        private static boolean isLetter(byte b) {
            return WordRow.isSmall(b) || WordRow.isCapital(b);
        }
    }

    /** Writes a turned text; the page before stays what is told up to the end of one that fits. */
    private static final class Scribe {
        private static final int TRIED = 0;
        private static final int CHANGED = 1;
        private static final int DOUBTS = 2;
        private static final int LOST = 3;
        private static final int NAMES = 4;
        private static final int TALLIES = 5;

        private byte[] told = new byte[PAGE_ROOM];
        private byte[] page = new byte[PAGE_ROOM];
        private int[] toldTally = new int[TALLIES];
        private int[] tally = new int[TALLIES];
        private boolean hasTold = false;
        private int toldSize = 0;
        private int size = 0;
        private int copied = 0;
        private boolean fits = true;

        void begin() {
            Arrays.fill(tally, 0);
            size = 0;
            copied = 0;
            fits = true;
        }

        void leaveName() {
            tally[NAMES]++;
        }

        void leaveLost() {
            tally[TRIED]++;
            tally[LOST]++;
        }

        void put(TextWords word, WordRow forms) {
            if (forms.count == 0) {
                leaveLost();
                return;
            }
            tally[TRIED]++;
            if (forms.count > 1) {
                tally[DOUBTS]++;
            }
            if (forms.lengths[0] == word.length && forms.standsIn(0, word.text, word.start)) {
                return;
            }
            tally[CHANGED]++;
            append(word.text, copied, word.start - copied);
            append(forms.letters, 0, forms.lengths[0]);
            copied = word.start + word.length;
        }

        int finish(byte[] text, int length) {
            append(text, copied, length - copied);
            if (!fits) {
                return NONE;
            }
            byte[] sparePage = told;
            told = page;
            page = sparePage;
            int[] spareTally = toldTally;
            toldTally = tally;
            tally = spareTally;
            hasTold = true;
            toldSize = size;
            return size;
        }

        int byteAt(int i) {
            return i < 0 || i >= toldSize ? NONE : told[i] & 255;
        }

        int tallyOf(int what) {
            return !hasTold || what < 0 || what >= TALLIES ? NONE : toldTally[what];
        }

        private void append(byte[] from, int start, int length) {
            if (!fits || length > PAGE_ROOM - size) {
                fits = false;
                return;
            }
            System.arraycopy(from, start, page, size, length);
            size += length;
        }
    }

    /** The cheapest row of stages for the lines of a mixed text. */
    private static final class Mixture {
        private final int[] costs = new int[MOST_LINES * MOST_STAGES];
        private final int[] least = new int[MOST_LINES * MOST_STAGES];
        private final int[] told = new int[MOST_LINES];
        private int toldLines = 0;
        private int lines = 0;
        private int stages = 0;

        void begin(int lineCount, int stageCount) {
            lines = Math.min(lineCount, MOST_LINES);
            stages = Math.min(stageCount, MOST_STAGES);
            Arrays.fill(costs, 0);
        }

        void charge(int lineNumber, int stage) {
            if (lineNumber < lines && stage < stages) {
                costs[lineNumber * MOST_STAGES + stage]++;
            }
        }

        /** Sums up from the last line, so that the first lines can then take the least stages. */
        int settle(int price) {
            for (int n = lines - 1; n >= 0; n--) {
                for (int s = 0; s < stages; s++) {
                    int rest = n + 1 < lines ? cost(n + 1, cheapest(n + 1, s, price), s, price) : 0;
                    least[n * MOST_STAGES + s] = costs[n * MOST_STAGES + s] + rest;
                }
            }
            int stage = NONE;
            for (int n = 0; n < lines; n++) {
                stage = cheapest(n, stage, price);
                told[n] = stage;
            }
            toldLines = lines;
            return cost(0, told[0], NONE, price);
        }

        int stageOf(int i) {
            return i < 0 || i >= toldLines ? NONE : told[i];
        }

        private int cheapest(int n, int stageAhead, int price) {
            int best = 0;
            for (int s = 1; s < stages; s++) {
                if (cost(n, s, stageAhead, price) < cost(n, best, stageAhead, price)) {
                    best = s;
                }
            }
            return best;
        }

        private int cost(int n, int stage, int stageAhead, int price) {
            boolean changes = stageAhead != NONE && stageAhead != stage;
            return least[n * MOST_STAGES + stage] + (changes ? price : 0);
        }
    }
}
