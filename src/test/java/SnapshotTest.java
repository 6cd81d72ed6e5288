import java.util.ArrayList;
import java.util.List;

/** Promises 12 to 16: snapshot, word, poke, restore, told. */
final class SnapshotTest {
    private static final Class<IndexOutOfBoundsException> INDEX = IndexOutOfBoundsException.class;

    public static void main(String[] args) {
        snapshotIsARowOfWords();
        snapshotOfManyCharacters();
        snapshotStays();
        wordRefuses();
        pokeChangesAWord();
        restoreReadsTheRow();
        restoreReadsAnotherRow();
        restoreEndsAtTheFirstThatIsNone();
        restoreKeepsToTheLimit();
        restoreOfNothing();
        restoreIsAnAction();
        toldTells();
        Check.end("SnapshotTest");
    }

    private static int w(int k, int c) {
        return 257 * k + c;
    }

    private static void snapshotIs(String text, Integer... words) {
        PieceText x = Check.of(text);
        Check.due("snapshot() of " + text, words.length, x.snapshot());
        Check.due("words of " + text, List.of(words), Check.words(x));
        Check.due("told(4) of " + text, words.length, x.told(4));
        Check.due("text behind snapshot()", text, Check.text(x));
        Check.due("actions behind snapshot()", Math.min(text.length(), 12), x.told(1));
    }

    private static void snapshotIsARowOfWords() {
        snapshotIs("");
        snapshotIs("a", w(0, 'a'));
        snapshotIs("ab", w(0, 'a'), w(0, 'b'));
        snapshotIs("aa", w(0, 'a'), w(1, 256));
        snapshotIs("aaa", w(0, 'a'), w(1, 'a'));
        snapshotIs("aaaa", w(0, 'a'), w(1, 'a'), w(1, 256));
        snapshotIs("aaaaa", w(0, 'a'), w(1, 'a'), w(2, 256));
        snapshotIs("abababababa", w(0, 'a'), w(0, 'b'), w(1, 'b'), w(3, 'a'), w(2, 'a'), w(5, 256));
        snapshotIs("abacabad", w(0, 'a'), w(0, 'b'), w(1, 'c'), w(1, 'b'), w(1, 'd'));
        snapshotIs("\0\u00ff\0\0", w(0, 0), w(0, 255), w(1, 0));
        snapshotIs("abb", w(0, 'a'), w(0, 'b'), w(2, 256));
    }

    private static void snapshotOfManyCharacters() {
        PieceText x = new PieceText();
        for (int i = 0; i < 240; i++) {
            x.insert(i, 255 - i);
        }
        Check.due("240 different ones", 240, x.told(5));
        Check.due("240 words", 240, x.snapshot());
        Check.due("the last word", 16, x.word(239));
        Check.due("no word behind it", "throws.IndexOutOfBoundsException", Check.answer(() -> x.word(240)));
        Check.due("restored", 240, x.restore());
        Check.due("the last character", 16, x.at(239));
        x.poke(239, w(239, 1));
        Check.due("one too long", -240, x.restore());
        x.poke(239, w(239, 256));
        Check.due("a phrase again", 240, x.restore());
        Check.due("the last but one again", 17, x.at(239));
        x.poke(239, w(240, 256));
        Check.due("a phrase that makes itself longer", -240, x.restore());
    }

    private static void snapshotStays() {
        PieceText x = Check.of("aab");
        x.snapshot();
        x.insert(0, 'q');
        x.undo();
        x.undo();
        Check.due("words of the text as it was", List.of(w(0, 'a'), w(1, 'b')), Check.words(x));
        Check.due("a shorter snapshot", 2, x.snapshot());
        Check.due("its words", List.of(w(0, 'a'), w(1, 256)), Check.words(x));
        x.delete(0, 1);
        x.snapshot();
        Check.refused("word(1) of a shorter one", x, INDEX, () -> x.word(1));
    }

    private static void wordRefuses() {
        PieceText x = Check.of("ab");
        Check.refused("word(0) before snapshot()", x, INDEX, () -> x.word(0));
        x.snapshot();
        Check.refused("word(-1)", x, INDEX, () -> x.word(-1));
        Check.refused("word(2)", x, INDEX, () -> x.word(2));
        Check.refused("word(MAX)", x, INDEX, () -> x.word(Integer.MAX_VALUE));
        Check.refused("word(MIN)", x, INDEX, () -> x.word(Integer.MIN_VALUE));
    }

    private static void pokeChangesAWord() {
        PieceText x = Check.of("ab");
        Check.refused("poke(0, 1) before snapshot()", x, INDEX, () -> x.poke(0, 1));
        x.snapshot();
        Check.due("poke the first", (int) 'a', x.poke(0, Integer.MIN_VALUE));
        Check.due("poke it again", Integer.MIN_VALUE, x.poke(0, Integer.MAX_VALUE));
        Check.due("poke the last", (int) 'b', x.poke(1, -7));
        Check.due("words poked", List.of(Integer.MAX_VALUE, -7), Check.words(x));
        Check.due("counts behind poke()", List.of(2, 2, 0, 0, 2, 2), Check.counts(x));
        Check.refused("poke(-1, 1)", x, INDEX, () -> x.poke(-1, 1));
        Check.refused("poke(2, 1)", x, INDEX, () -> x.poke(2, 1));
    }

    private static void restoreReadsTheRow() {
        for (String text : new String[] {"a", "ab", "aa", "aaaaaaa", "abababababa", "abacabad", "\0\0\u00ff\0\u00ff"}) {
            PieceText x = Check.of(text);
            x.snapshot();
            List<Integer> words = Check.words(x);
            x.delete(0, text.length());
            x.insert(0, 'q');
            Check.due("restore() of " + text, text.length(), x.restore());
            Check.due("text restored", text, Check.text(x));
            Check.due("words behind restore()", words, Check.words(x));
        }
    }

    /** An object whose snapshot has just these words. */
    private static PieceText withWords(int... words) {
        PieceText x = new PieceText();
        for (int i = 0; i < words.length; i++) {
            x.insert(i, i);
        }
        x.snapshot();
        for (int i = 0; i < words.length; i++) {
            x.poke(i, words[i]);
        }
        return x;
    }

    private static void restoreIs(String want, int... words) {
        PieceText x = withWords(words);
        Check.due("restore() to " + want, want.length(), x.restore());
        Check.due("text restored", want, Check.text(x));
    }

    private static void restoreReadsAnotherRow() {
        restoreIs("aaaa", w(0, 'a'), w(0, 'a'), w(0, 'a'), w(0, 'a'));
        restoreIs("aabab", w(0, 'a'), w(1, 'b'), w(2, 256));
        restoreIs("aba", w(0, 'a'), w(0, 'b'), w(1, 256));
        restoreIs("aabababc", w(0, 'a'), w(1, 'b'), w(2, 'a'), w(0, 'b'), w(0, 'c'));
        restoreIs("ababcabab", w(0, 'a'), w(0, 'b'), w(1, 'b'), w(0, 'c'), w(3, 'a'), w(2, 256));
        restoreIs("\0\0\u00ff", w(0, 0), w(1, 255));
    }

    private static void restoreEnds(int due, int... words) {
        PieceText x = withWords(words);
        x.undo();
        List<Integer> before = Check.counts(x);
        String text = Check.text(x);
        List<Integer> row = new ArrayList<>();
        for (int word : words) {
            row.add(word);
        }
        Check.due("restore() of " + row, due, x.restore());
        Check.due("counts behind " + row, before, Check.counts(x));
        Check.due("text behind " + row, text, Check.text(x));
        Check.due("words behind " + row, row, Check.words(x));
        Check.due("redo() behind " + row, words.length, x.redo());
        Check.due("the last behind redo()", words.length - 1, x.at(words.length - 1));
    }

    private static void restoreEndsAtTheFirstThatIsNone() {
        restoreEnds(-1, -1);
        restoreEnds(-1, Integer.MIN_VALUE);
        restoreEnds(-1, Integer.MAX_VALUE);
        restoreEnds(-1, w(0, 256));
        restoreEnds(-1, w(1, 0));
        restoreEnds(-1, w(1, 256));
        restoreEnds(-2, 'a', w(0, 256));
        restoreEnds(-2, 'a', w(2, 'a'));
        restoreEnds(-2, 'a', w(2, 256));
        restoreEnds(-2, 'a', w(1, 256), 'b');
        restoreEnds(-3, 'a', w(1, 'a'), -1, -1);
        restoreEnds(-3, 'a', 'b', w(3, 0));
        restoreEnds(-2, 'a', -257 + 'a', w(9, 1));
        restoreEnds(-4, 'a', 'b', 'c', Integer.MIN_VALUE);
    }

    /** The words of a row of one character, each phrase longer by one: 1 + 2 + .. + 21 are 231. */
    private static PieceText growing() {
        PieceText x = Check.full('x');
        Check.due("snapshot() of 240 like ones", 22, x.snapshot());
        Check.due("the last one without a character", w(9, 256), x.word(21));
        return x;
    }

    private static void restoreKeepsToTheLimit() {
        PieceText x = growing();
        x.delete(0, 240);
        Check.due("240 restored", 240, x.restore());
        x.poke(21, w(8, 'y'));
        Check.due("240 restored with a character", 240, x.restore());
        Check.due("it is the last", (int) 'y', x.at(239));
        List<Integer> before = Check.counts(x);
        x.poke(21, w(9, 'y'));
        Check.due("241 by a character", -22, x.restore());
        x.poke(21, w(10, 256));
        Check.due("241 by a phrase", -22, x.restore());
        x.poke(21, w(21, 256));
        Check.due("252 by a phrase", -22, x.restore());
        Check.due("nothing changed", before, Check.counts(x));
        Check.due("the last is as before", (int) 'y', x.at(239));
        x.poke(21, w(7, 256));
        Check.due("238 restored", 238, x.restore());
        x.poke(20, w(21, 'x'));
        Check.due("an earlier one that is none", -21, x.restore());
    }

    private static void restoreOfNothing() {
        PieceText x = Check.of("abc");
        Check.due("restore() without a snapshot", 0, x.restore());
        Check.due("counts behind it", List.of(0, 4, 0, 0, 0, 0), Check.counts(x));
        Check.due("undo() of it", 3, x.undo());
        Check.due("text behind undo()", "abc", Check.text(x));
    }

    private static void restoreIsAnAction() {
        PieceText x = Check.of("ab");
        x.snapshot();
        x.insert(2, 'c');
        x.undo();
        Check.due("restore() to the same", 2, x.restore());
        Check.due("is an action", List.of(2, 3, 0, 0, 2, 2), Check.counts(x));
        x.poke(1, -1);
        x.undo();
        Check.due("a refused one", -2, x.restore());
        Check.due("is none", List.of(2, 2, 1, 0, 2, 2), Check.counts(x));
        Check.due("redo() behind it", 2, x.redo());
    }

    private static void toldTells() {
        PieceText x = Check.of("abcab");
        x.undo();
        x.undo();
        Check.setPattern(x, "abcd");
        x.snapshot();
        x.undo();
        Check.due("all counts", List.of(2, 2, 3, 4, 3, 2), Check.counts(x));
        for (int what : new int[] {-1, 6, 7, Integer.MAX_VALUE, Integer.MIN_VALUE}) {
            Check.due("told(" + what + ")", -1, x.told(what));
        }
        Check.due("told() changes nothing", List.of(2, 2, 3, 4, 3, 2), Check.counts(x));
        Check.due("different ones of aabbaa", 2, Check.of("aabbaa").told(5));
        Check.due("different ones at the ends", 2, Check.of("\0\u00ff\0").told(5));
    }
}
