import java.util.Arrays;
import java.util.List;
import java.util.stream.Collectors;

/** Restoring, and promise 15: each way in which a word is none, alone and as the first of several. */
final class RestoreTest {
    private static final int MAX = Integer.MAX_VALUE;
    private static final int MIN = Integer.MIN_VALUE;

    public static void main(String[] args) {
        Check.sentence("RESTORING reads the words", RestoreTest::readsTheRow);
        Check.sentence("each makes a phrase, which comes behind the text", RestoreTest::eachMakesAPhrase);
        Check.sentence("It need not be the row that the text has", RestoreTest::readsAnotherRow);
        Check.sentence("below 0 (a word that is none)", RestoreTest::belowZero);
        Check.sentence("k above the number of words before it (a word that is none)", RestoreTest::kTooLarge);
        Check.sentence("c 256 in one that is not the last one (a word that is none)",
            RestoreTest::noCharacterBeforeTheLast);
        Check.sentence("or with k 0 (c 256, a word that is none)", RestoreTest::noCharacterOfNothing);
        Check.sentence("or with which the text would be longer than 240", RestoreTest::longerThan240);
        Check.sentence("or with which the text would be longer than 240 (before the last)",
            RestoreTest::longerBeforeTheLast);
        Check.sentence("it ends at the first word that is none", RestoreTest::endsAtTheFirst);
        Check.sentence("RESTORING the snapshot is an action: the length", RestoreTest::isAnAction);
        Check.sentence("RESTORING the snapshot (of no words)", RestoreTest::noWords);
        Check.sentence("NONE less the number of the first word that is none", RestoreTest::noneLessTheNumber);
        Check.sentence("the text stays then", RestoreTest::theTextStays);
        Check.end("RestoreTest");
    }

    private static int w(int k, int c) {
        return Given.word(k, c);
    }

    private static void readsTheRow() {
        for (String text : new String[] {"a", "ab", "aa", "aaaaaaa", "abababababa", "abacabad", "\0\0\u00ff\0\u00ff"}) {
            PieceText x = Given.of(text);
            x.snapshot();
            List<Integer> words = Look.words(x);
            Check.due("restore() of " + text + " to itself", text.length(), x.restore());
            Check.due("text restored to itself", text, Look.text(x));
            x.delete(0, text.length());
            x.insert(0, 'q');
            Check.due("restore() of " + text, text.length(), x.restore());
            Check.due("text restored", text, Look.text(x));
            Check.due("words behind restore()", words, Look.words(x));
        }
        PieceText full = Given.made(Given::most);
        full.delete(100, 140);
        Check.due("a full text", 240, full.restore());
        Check.due("its characters", "x".repeat(239) + "y", Look.text(full));
    }

    private static void restoreIs(String want, int... words) {
        PieceText x = Given.made(y -> Given.words(y, words));
        Check.due("restore() to " + want, want.length(), x.restore());
        Check.due("text restored", want, Look.text(x));
        Check.due("the past behind it", Math.min(words.length + 1, 12), x.told(1));
    }

    private static void eachMakesAPhrase() {
        restoreIs("a", w(0, 'a'));
        restoreIs("ab", w(0, 'a'), w(0, 'b'));
        restoreIs("aab", w(0, 'a'), w(1, 'b'));
        restoreIs("aabab", w(0, 'a'), w(1, 'b'), w(2, 256));
        restoreIs("aba", w(0, 'a'), w(0, 'b'), w(1, 256));
        restoreIs("aababcabc", w(0, 'a'), w(1, 'b'), w(2, 'c'), w(3, 256));
        restoreIs("\0\0\u00ff\0\u00ff\0", w(0, 0), w(1, 255), w(2, 0));
        restoreIs("\u00ff\u00ff", w(0, 255), w(1, 256));
    }

    private static void readsAnotherRow() {
        restoreIs("aaaa", w(0, 'a'), w(0, 'a'), w(0, 'a'), w(0, 'a'));
        restoreIs("aabab", w(0, 'a'), w(1, 'b'), w(1, 'b'));
        restoreIs("aabac", w(0, 'a'), w(0, 'a'), w(0, 'b'), w(2, 'c'));
        restoreIs("aabababc", w(0, 'a'), w(1, 'b'), w(2, 'a'), w(0, 'b'), w(0, 'c'));
        restoreIs("ababcabab", w(0, 'a'), w(0, 'b'), w(1, 'b'), w(0, 'c'), w(3, 'a'), w(2, 256));
        restoreIs("aaaa", w(0, 'a'), w(1, 'a'), w(0, 'a'));
    }

    private static String told(int... words) {
        return Arrays.stream(words).mapToObj(word -> Math.floorDiv(word, 257) + "*257+" + Math.floorMod(word, 257))
            .collect(Collectors.joining(", ", "restore() of ", ""));
    }

    /** The word of this number is the first that is none, and nothing changes, the future neither. */
    private static void endsAt(int number, int... words) {
        Check.Steps state = x -> {
            Given.words(x, words);
            x.pattern(0);
            x.undo();
        };
        Check.due(told(words), -1 - number, Given.made(state).restore());
        Check.changesNothing(told(words), state, x -> x.restore());
    }

    private static void belowZero() {
        for (int word : new int[] {-1, -2, -160, -256, -257, -258, -65536, MIN, MIN + 1}) {
            endsAt(0, word, 'b');
            endsAt(1, 'a', word);
            endsAt(1, 'a', word, 'b');
            endsAt(2, 'a', w(1, 'b'), word);
        }
        restoreIs("\0\0", 0, 0);
    }

    private static void kTooLarge() {
        for (int c : new int[] {0, 'a', 255, 256}) {
            endsAt(0, w(1, c), 'b');
            endsAt(1, 'a', w(2, c));
            endsAt(2, 'a', 'b', w(3, c));
            endsAt(2, 'a', 'b', w(100, c));
        }
        endsAt(0, w(1, 0), 'b');
        endsAt(0, MAX, 'b');
        endsAt(1, 'a', w(2, 'b'), w(1, 'c'));
        endsAt(1, 'a', MAX);
        restoreIs("aac", w(0, 'a'), w(1, 'c'));
        restoreIs("abbc", w(0, 'a'), w(0, 'b'), w(2, 'c'));
        restoreIs("abb", w(0, 'a'), w(0, 'b'), w(2, 256));
    }

    private static void noCharacterBeforeTheLast() {
        endsAt(1, 'a', w(1, 256), 'b');
        endsAt(1, 'a', w(1, 256), w(1, 256));
        endsAt(2, 'a', 'b', w(2, 256), 'c', 'd');
        endsAt(3, 'a', 'b', 'c', w(1, 256), 'd');
        restoreIs("aa", 'a', w(1, 256));
        restoreIs("aba", 'a', 'b', w(1, 256));
        restoreIs("aab", 'a', w(1, 'b'));
        restoreIs("aa\u00ffb", 'a', w(1, 255), 'b');
    }

    private static void noCharacterOfNothing() {
        endsAt(0, 256, 'b');
        endsAt(1, 'a', 256, 'b');
        endsAt(1, 'a', 256);
        endsAt(2, 'a', w(1, 'b'), 256);
        PieceText alone = Given.made(x -> Given.words(x, 256));
        Check.due("the only one", -1, alone.restore());
        Check.due("counts behind it", List.of(1, 1, 0, 0, 1, 1), Look.counts(alone));
        restoreIs("\u00ff", 255);
        restoreIs("a\u00ff", 'a', 255);
    }

    /** 22 words, each phrase of x longer by one, 1 + 2 + .. + 21 = 231 characters, and a last word. */
    private static Check.Steps last(int word) {
        return x -> {
            Given.fill(x, 'x', 240);
            x.delete(0, 7);
            x.undo();
            x.snapshot();
            x.poke(21, word);
        };
    }

    private static void fits(int length, int word) {
        PieceText x = Given.made(last(word));
        Check.due("231 and " + told(word), length, x.restore());
        Check.due("the length behind it", length, x.told(0));
        Check.due("the last character", word % 257 == 256 ? 'x' : word % 257, x.at(length - 1));
    }

    private static void fitsNot(int word) {
        Check.due("231 and " + told(word), -22, Given.made(last(word)).restore());
        Check.changesNothing("231 and " + told(word), last(word), x -> x.restore());
    }

    private static void longerThan240() {
        fits(232, w(0, 'y'));
        fits(239, w(8, 256));
        fits(239, w(7, 'y'));
        fits(240, w(9, 256));
        fits(240, w(8, 'y'));
        fitsNot(w(9, 'y'));
        fitsNot(w(10, 256));
        fitsNot(w(10, 'y'));
        fitsNot(w(21, 256));
        fitsNot(w(21, 'y'));
        Check.Steps words240 = x -> {
            for (int i = 0; i < 240; i++) {
                x.insert(i, i);
            }
            x.snapshot();
        };
        PieceText x = Given.made(words240);
        Check.due("240 words", 240, x.restore());
        x.poke(239, w(239, 256));
        Check.due("240 words, the last without a character", 240, x.restore());
        Check.due("its character is the one before", 238, x.at(239));
        x.poke(239, w(239, 239));
        Check.due("the 240th word makes 241", -240, x.restore());
        x.poke(239, 239);
        x.poke(1, w(1, 1));
        Check.due("the second makes 241 of them, with the last", -240, x.restore());
        Check.due("the text stays", 238, x.at(239));
    }

    /** Words behind the first that is too long do not matter, whatever they are. */
    private static void longerBeforeTheLast() {
        int[] words = new int[30];
        for (int i = 0; i < words.length; i++) {
            words[i] = w(i, 'x');
        }
        endsAt(21, words);
        words[22] = -1;
        endsAt(21, words);
        words[22] = w(0, 256);
        words[23] = MAX;
        endsAt(21, words);
        words[21] = w(0, 'y');
        words[22] = w(20, 'z');
        endsAt(22, words);
        words[22] = w(7, 'z');
        endsAt(23, words);
        words[23] = 'a';
        endsAt(23, words);
        words[20] = -1;
        endsAt(20, words);
    }

    private static void endsAtTheFirst() {
        endsAt(1, 'a', -1, w(9, 1), 256);
        endsAt(1, 'a', w(9, 1), -1, 256);
        endsAt(1, 'a', 256, -1, w(9, 1));
        endsAt(1, 'a', w(1, 256), -1, w(9, 1));
        endsAt(0, -1, -1);
        endsAt(0, w(1, 'a'), -1, 256);
        endsAt(3, 'a', 'b', 'c', MIN, MAX);
        endsAt(2, 'a', 'b', w(3, 'c'), w(4, 'c'), w(5, 'c'));
    }

    private static void isAnAction() {
        PieceText x = Given.of("ab");
        x.snapshot();
        x.insert(2, 'c');
        Check.due("restore()", 2, x.restore());
        Check.due("the past, and no future", List.of(2, 4, 0, 0, 2, 2), Look.counts(x));
        Check.due("undo() of it", 3, x.undo());
        Check.due("text behind undo()", "abc", Look.text(x));
        Check.due("redo() of it", 2, x.redo());
        Check.due("text behind redo()", "ab", Look.text(x));
        x.undo();
        Check.due("restore() before a future", 2, x.restore());
        Check.due("ends it", List.of(2, 4, 0, 0, 2, 2), Look.counts(x));
    }

    private static void noWords() {
        PieceText x = Given.of("abc");
        Check.due("restore() before snapshot()", 0, x.restore());
        Check.due("is an action", List.of(0, 4, 0, 0, 0, 0), Look.counts(x));
        Check.due("undo() of it", 3, x.undo());
        Check.due("text behind undo()", "abc", Look.text(x));
        PieceText y = new PieceText();
        y.snapshot();
        Given.put(y, "abc");
        Check.due("restore() of a snapshot of no text", 0, y.restore());
        Check.due("is an action, too", List.of(0, 4, 0, 0, 0, 0), Look.counts(y));
        PieceText z = Given.made(Given::some);
        z.clear();
        Given.put(z, "abc");
        z.undo();
        Check.due("restore() behind clear(), which takes the snapshot away", 0, z.restore());
        Check.due("is an action that ends the future", List.of(0, 3, 0, 0, 0, 0), Look.counts(z));
        Check.due("undo() of that", 2, z.undo());
        Check.due("text behind that", "ab", Look.text(z));
        Check.due("redo() of that", 0, z.redo());
    }

    private static void noneLessTheNumber() {
        PieceText x = new PieceText();
        for (int i = 0; i < 30; i++) {
            x.insert(i, i);
        }
        x.snapshot();
        for (int i = 29; i >= 0; i--) {
            x.poke(i, -1);
            Check.due("the number " + i, PieceText.NONE - i, x.restore());
        }
    }

    private static void theTextStays() {
        Check.due("restore()", -2, Given.made(Given::some).restore());
        Check.changesNothing("restore()", Given::some, x -> x.restore());
        Check.Steps most = x -> {
            Given.most(x);
            x.poke(21, -1);
        };
        Check.due("restore() at a full text", -22, Given.made(most).restore());
        Check.changesNothing("restore() at a full text", most, x -> x.restore());
        PieceText x = Given.made(Given::some);
        x.restore();
        x.poke(1, 'q');
        Check.due("restore() of the row that is mended", 5, x.restore());
        Check.due("text restored", "aqcab", Look.text(x));
    }
}
