import java.util.Arrays;

/**
 * A text that is edited, undone and done again, searched for a pattern,
 * written down as a row of phrases and restored from such a row.
 */
public final class PieceText {
    public static final int NONE = -1;

    private static final int TEXT_LIMIT = 240;
    private static final int PAST_LIMIT = 12;
    private static final int PATTERN_LIMIT = 16;
    private static final int CHARACTERS = 256;

    private final History history;
    private final Row sought;
    private final Phrases written;
    // Every edit is built here first: the row that it will be kept in may
    // still be needed for undoing or doing again if the edit is refused.
    private final Row draft;
    private final int[] seen;

    public PieceText() {
        history = new History();
        sought = new Row(PATTERN_LIMIT);
        written = new Phrases();
        draft = new Row(TEXT_LIMIT);
        seen = new int[CHARACTERS];
    }

    public int insert(int place, int c)
            throws IndexOutOfBoundsException, IllegalArgumentException, UnsupportedOperationException {
        Row text = history.present();
        refuseNoPlace(place, text);
        refuseNoCharacter(c);
        refuseTooLong(1, text);
        draft.empty();
        draft.addPart(text, 0, place);
        draft.add(c);
        draft.addPart(text, place, text.size());
        return keepDraft();
    }

    public int delete(int place, int n) throws IndexOutOfBoundsException, IllegalArgumentException {
        Row text = history.present();
        refuseNoPlace(place, text);
        refuseNoPart(place, n, text);
        draft.empty();
        draft.addPart(text, 0, place);
        draft.addPart(text, place + n, text.size());
        return keepDraft();
    }

    public int copy(int place, int n, int to)
            throws IndexOutOfBoundsException, IllegalArgumentException, UnsupportedOperationException {
        Row text = history.present();
        refuseNoPlace(place, text);
        refuseNoPlace(to, text);
        refuseNoPart(place, n, text);
        refuseTooLong(n, text);
        draft.empty();
        draft.addPart(text, 0, to);
        draft.addPart(text, place, place + n);
        draft.addPart(text, to, text.size());
        return keepDraft();
    }

    public int at(int place) throws IndexOutOfBoundsException {
        Row text = history.present();
        if (place < 0 || place >= text.size()) {
            throw new IndexOutOfBoundsException("no such character");
        }
        return text.get(place);
    }

    public int undo() throws IllegalStateException {
        if (history.pastSize() == 0) {
            throw new IllegalStateException("the past has no action");
        }
        history.stepBack();
        return history.present().size();
    }

    public int redo() throws IllegalStateException {
        if (history.futureSize() == 0) {
            throw new IllegalStateException("the future has no action");
        }
        history.stepOn();
        return history.present().size();
    }

    public int pattern(int c) throws IllegalArgumentException, UnsupportedOperationException {
        refuseNoCharacter(c);
        if (sought.size() >= PATTERN_LIMIT) {
            throw new UnsupportedOperationException("the pattern would be too long");
        }
        sought.add(c);
        return sought.size();
    }

    public int noPattern() {
        int had = sought.size();
        sought.empty();
        return had;
    }

    public int find(int from) throws IndexOutOfBoundsException {
        Row text = history.present();
        refuseNoPlace(from, text);
        for (int place = from; place <= text.size(); place++) {
            if (text.hasAt(place, sought)) {
                return place;
            }
        }
        return NONE;
    }

    public int replace(int c) throws IllegalArgumentException, IllegalStateException {
        refuseNoCharacter(c);
        if (sought.size() == 0) {
            throw new IllegalStateException("the pattern has no characters");
        }
        int times = draftReplaced(c);
        keepDraft();
        return times;
    }

    public int snapshot() {
        written.writeDown(history.present());
        return written.size();
    }

    public int word(int i) throws IndexOutOfBoundsException {
        refuseNoWord(i);
        return written.get(i);
    }

    public int poke(int i, int word) throws IndexOutOfBoundsException {
        refuseNoWord(i);
        int was = written.get(i);
        written.set(i, word);
        return was;
    }

    public int restore() {
        int wrong = written.readInto(draft);
        if (wrong != NONE) {
            return NONE - wrong;
        }
        return keepDraft();
    }

    public int told(int what) {
        switch (what) {
            case 0:
                return history.present().size();
            case 1:
                return history.pastSize();
            case 2:
                return history.futureSize();
            case 3:
                return sought.size();
            case 4:
                return written.size();
            case 5:
                return differentCharacters();
            default:
                return NONE;
        }
    }

    public void clear() {
        history.forget();
        sought.empty();
        written.forget();
    }

    private int keepDraft() {
        history.keep(draft);
        return draft.size();
    }

    private int draftReplaced(int c) {
        Row text = history.present();
        draft.empty();
        int times = 0;
        int behindLast = 0;
        for (int place = 0; place < text.size(); place++) {
            if (place < behindLast) {
                continue;
            }
            if (text.hasAt(place, sought)) {
                draft.add(c);
                times++;
                behindLast = place + sought.size();
            } else {
                draft.add(text.get(place));
            }
        }
        return times;
    }

    private int differentCharacters() {
        Row text = history.present();
        Arrays.fill(seen, 0);
        int different = 0;
        for (int place = 0; place < text.size(); place++) {
            int c = text.get(place);
            if (seen[c] == 0) {
                different++;
            }
            seen[c]++;
        }
        return different;
    }

    private static void refuseNoPlace(int place, Row text) {
        if (place < 0 || place > text.size()) {
            throw new IndexOutOfBoundsException("no such place");
        }
    }

    private static void refuseNoCharacter(int c) {
        if (c < 0 || c >= CHARACTERS) {
            throw new IllegalArgumentException("no character");
        }
    }

    private static void refuseNoPart(int place, int n, Row text) {
        if (n < 0 || n > text.size() - place) {
            throw new IllegalArgumentException("not so many characters");
        }
    }

    private static void refuseTooLong(int more, Row text) {
        if (more > TEXT_LIMIT - text.size()) {
            throw new UnsupportedOperationException("the text would be too long");
        }
    }

    private void refuseNoWord(int i) {
        if (i < 0 || i >= written.size()) {
            throw new IndexOutOfBoundsException("no such word");
        }
    }

    /** Characters in a row; whoever adds some has looked whether there is room. */
    private static final class Row {
        private final int[] characters;
        private int length;

        Row(int limit) {
            characters = new int[limit];
            length = 0;
        }

        int size() {
            return length;
        }

        int get(int place) {
            return characters[place];
        }

        void empty() {
            length = 0;
        }

        void add(int c) {
            characters[length] = c;
            length++;
        }

        void addPart(Row from, int start, int end) {
            System.arraycopy(from.characters, start, characters, length, end - start);
            length += end - start;
        }

        boolean hasAt(int place, Row part) {
            if (part.length > length - place) {
                return false;
            }
            for (int i = 0; i < part.length; i++) {
                if (characters[place + i] != part.characters[i]) {
                    return false;
                }
            }
            return true;
        }
    }

    /**
     * The texts before and after each action, in a ring. Whole texts are held,
     * so that an action is done again as it was done, though the pattern or
     * the snapshot that it used may have changed since.
     */
    private static final class History {
        private static final int RING = PAST_LIMIT + 1;

        private final Row[] texts;
        private int now;
        private int past;
        private int future;

        History() {
            texts = new Row[RING];
            for (int i = 0; i < RING; i++) {
                texts[i] = new Row(TEXT_LIMIT);
            }
            now = 0;
            past = 0;
            future = 0;
        }

        Row present() {
            return texts[now];
        }

        int pastSize() {
            return past;
        }

        int futureSize() {
            return future;
        }

        void keep(Row text) {
            now = (now + 1) % RING;
            texts[now].empty();
            texts[now].addPart(text, 0, text.size());
            past = Math.min(past + 1, PAST_LIMIT);
            future = 0;
        }

        void stepBack() {
            now = (now + RING - 1) % RING;
            past--;
            future++;
        }

        void stepOn() {
            now = (now + 1) % RING;
            past++;
            future--;
        }

        void forget() {
            texts[now].empty();
            past = 0;
            future = 0;
        }
    }

    /** The snapshot: a row of words, each of them a phrase. */
    private static final class Phrases {
        private static final int BASE = 257;
        private static final int NO_CHARACTER = 256;

        private final int[] words;
        // Where each phrase starts in the text that is read, and, one further,
        // where the last one ends.
        private final int[] starts;
        private int count;

        Phrases() {
            words = new int[TEXT_LIMIT];
            starts = new int[TEXT_LIMIT + 1];
            count = 0;
        }

        int size() {
            return count;
        }

        int get(int i) {
            return words[i];
        }

        void set(int i, int word) {
            words[i] = word;
        }

        void forget() {
            count = 0;
        }

        void writeDown(Row text) {
            count = 0;
            int known = 0;
            for (int place = 0; place < text.size(); place++) {
                int word = BASE * known + text.get(place);
                int longer = numberOf(word, known);
                if (longer == 0) {
                    addWord(word);
                }
                known = longer;
            }
            if (known > 0) {
                addWord(BASE * known + NO_CHARACTER);
            }
        }

        private void addWord(int word) {
            words[count] = word;
            count++;
        }

        /**
         * The number of the phrase that is this word, 0 if none is. It can only
         * stand behind the shorter one that it makes longer.
         */
        private int numberOf(int word, int shorter) {
            for (int i = shorter; i < count; i++) {
                if (words[i] == word) {
                    return i + 1;
                }
            }
            return 0;
        }

        /** Which word is the first that is none, or NONE if each is a phrase. */
        int readInto(Row text) {
            text.empty();
            starts[0] = 0;
            for (int i = 0; i < count; i++) {
                if (!isPhrase(i) || lengthOf(words[i]) > TEXT_LIMIT - text.size()) {
                    return i;
                }
                addPhrase(words[i], text);
                starts[i + 1] = text.size();
            }
            return NONE;
        }

        private boolean isPhrase(int i) {
            int word = words[i];
            if (word < 0 || word / BASE > i) {
                return false;
            }
            if (word % BASE != NO_CHARACTER) {
                return true;
            }
            return i == count - 1 && word / BASE > 0;
        }

        private int lengthOf(int word) {
            int k = word / BASE;
            int shorter = k == 0 ? 0 : starts[k] - starts[k - 1];
            return word % BASE == NO_CHARACTER ? shorter : shorter + 1;
        }

        private void addPhrase(int word, Row text) {
            int k = word / BASE;
            if (k > 0) {
                text.addPart(text, starts[k - 1], starts[k]);
            }
            if (word % BASE != NO_CHARACTER) {
                text.add(word % BASE);
            }
        }
    }
}
