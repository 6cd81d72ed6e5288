import java.util.ArrayList;
import java.util.List;

/** Phrases and words, and promises 12 to 14: snapshot, word, poke. */
final class SnapshotTest {
    private static final Class<IndexOutOfBoundsException> INDEX = IndexOutOfBoundsException.class;
    private static final int MAX = Integer.MAX_VALUE;
    private static final int MIN = Integer.MIN_VALUE;

    public static void main(String[] args) {
        Check.sentence("the longest that is one of those before it", SnapshotTest::longestBefore);
        Check.sentence("(or nothing), and the next character", SnapshotTest::nothingAndACharacter);
        Check.sentence("from where the last one ended", SnapshotTest::fromWhereTheLastEnded);
        Check.sentence("the last one may be without that, if the text ends", SnapshotTest::lastWithoutACharacter);
        Check.sentence("257 k + c, where c is its character", SnapshotTest::charactersOfWords);
        Check.sentence("The SNAPSHOT is that of the text: how many words", SnapshotTest::howManyWords);
        Check.sentence("The SNAPSHOT is that of the text (of 240 characters)", SnapshotTest::snapshotOf240);
        Check.sentence("The SNAPSHOT is that of the text (as it was)", SnapshotTest::snapshotStays);
        Check.sentence("The SNAPSHOT is that of the text (not what it was before)", SnapshotTest::snapshotIsMadeAnew);
        Check.sentence("A word of the snapshot", SnapshotTest::wordTells);
        Check.sentence("there is no such place, or word (word)", SnapshotTest::noSuchWord);
        Check.sentence("A word of it becomes another one, whatever it is: what it was", SnapshotTest::pokeChangesAWord);
        Check.sentence("there is no such place, or word (poke)", SnapshotTest::pokeNoSuchWord);
        Check.end("SnapshotTest");
    }

    private static int w(int k, int c) {
        return Given.word(k, c);
    }

    private static void snapshotIs(String text, Integer... words) {
        PieceText x = Given.of(text);
        Check.due("snapshot() of " + text, words.length, x.snapshot());
        Check.due("words of " + text, List.of(words), Look.words(x));
        Check.due("told(4) of " + text, words.length, x.told(4));
        Check.due("text behind snapshot()", text, Look.text(x));
        Check.due("actions behind snapshot()", Math.min(text.length(), 12), x.told(1));
    }

    private static void longestBefore() {
        snapshotIs("aaa", w(0, 'a'), w(1, 'a'));
        snapshotIs("aaaaaa", w(0, 'a'), w(1, 'a'), w(2, 'a'));
        snapshotIs("abababababa", w(0, 'a'), w(0, 'b'), w(1, 'b'), w(3, 'a'), w(2, 'a'), w(5, 256));
        snapshotIs("aababcabcdabcde", w(0, 'a'), w(1, 'b'), w(2, 'c'), w(3, 'd'), w(4, 'e'));
        snapshotIs("abbcabbcabbd", w(0, 'a'), w(0, 'b'), w(2, 'c'), w(1, 'b'), w(3, 'a'), w(2, 'b'), w(0, 'd'));
        snapshotIs("aabaacaad", w(0, 'a'), w(1, 'b'), w(1, 'a'), w(0, 'c'), w(3, 'd'));
    }

    private static void nothingAndACharacter() {
        snapshotIs("a", w(0, 'a'));
        snapshotIs("ab", w(0, 'a'), w(0, 'b'));
        snapshotIs("cba", w(0, 'c'), w(0, 'b'), w(0, 'a'));
        snapshotIs("aabb", w(0, 'a'), w(1, 'b'), w(0, 'b'));
    }

    private static void fromWhereTheLastEnded() {
        snapshotIs("abacabad", w(0, 'a'), w(0, 'b'), w(1, 'c'), w(1, 'b'), w(1, 'd'));
        snapshotIs("aabab", w(0, 'a'), w(1, 'b'), w(2, 256));
        snapshotIs("abcbcabc", w(0, 'a'), w(0, 'b'), w(0, 'c'), w(2, 'c'), w(1, 'b'), w(3, 256));
    }

    private static void lastWithoutACharacter() {
        snapshotIs("aa", w(0, 'a'), w(1, 256));
        snapshotIs("abb", w(0, 'a'), w(0, 'b'), w(2, 256));
        snapshotIs("aaaa", w(0, 'a'), w(1, 'a'), w(1, 256));
        snapshotIs("aaaaa", w(0, 'a'), w(1, 'a'), w(2, 256));
        snapshotIs("aabaa", w(0, 'a'), w(1, 'b'), w(1, 'a'));
        snapshotIs("aabaaaab", w(0, 'a'), w(1, 'b'), w(1, 'a'), w(3, 'b'));
        snapshotIs("aabaaab", w(0, 'a'), w(1, 'b'), w(1, 'a'), w(2, 256));
        snapshotIs("\0\0", w(0, 0), w(1, 256));
        snapshotIs("\u00ff\u00ff", w(0, 255), w(1, 256));
    }

    private static void charactersOfWords() {
        snapshotIs("\0\u00ff\0\0\u00ff\u00ff", w(0, 0), w(0, 255), w(1, 0), w(2, 255));
        snapshotIs("\0\u00ff\0\u00ff\0", w(0, 0), w(0, 255), w(1, 255), w(1, 256));
        for (int c = 0; c <= 255; c++) {
            PieceText x = new PieceText();
            x.insert(0, c);
            x.insert(0, c);
            x.insert(0, c);
            Check.due("snapshot() of " + c, 2, x.snapshot());
            Check.due("words of " + c, List.of(c, 257 + c), Look.words(x));
        }
    }

    private static void howManyWords() {
        snapshotIs("");
        Check.due("of no text", 0, new PieceText().snapshot());
        for (int n = 1; n <= 21; n++) {
            int length = n * (n + 1) / 2;
            for (int more = 0; more <= n && length + more <= 240; more++) {
                PieceText x = new PieceText();
                Given.fill(x, 'a', length + more);
                Check.due("words of a text of " + (length + more), more == 0 ? n : n + 1, x.snapshot());
                Check.due("told(4)", more == 0 ? n : n + 1, x.told(4));
            }
        }
    }

    private static void snapshotOf240() {
        PieceText x = new PieceText();
        List<Integer> words = new ArrayList<>();
        for (int i = 0; i < 240; i++) {
            x.insert(i, 255 - i);
            words.add(255 - i);
        }
        Check.due("240 different ones", 240, x.snapshot());
        Check.due("their words", words, Look.words(x));
        PieceText y = Given.made(Given::most);
        Check.due("239 like ones and another", 22, y.snapshot());
        Check.due("the last word but one", w(20, 'x'), y.word(20));
        Check.due("the last word", w(8, 'y'), y.word(21));
    }

    private static void snapshotStays() {
        PieceText x = Given.of("aab");
        x.snapshot();
        x.insert(0, 'q');
        Check.due("behind an edit", List.of(w(0, 'a'), w(1, 'b')), Look.words(x));
        Given.undo(x, 2);
        Check.due("behind undo()", List.of(w(0, 'a'), w(1, 'b')), Look.words(x));
        x.redo();
        x.restore();
        Check.due("behind restore()", List.of(w(0, 'a'), w(1, 'b')), Look.words(x));
        x.delete(0, 3);
        Check.due("without a text", 2, x.told(4));
    }

    private static void snapshotIsMadeAnew() {
        PieceText x = Given.of("abcab");
        x.snapshot();
        x.poke(0, -1);
        Check.due("the same text", 4, x.snapshot());
        Check.due("nothing of what was poked", List.of(w(0, 'a'), w(0, 'b'), w(0, 'c'), w(1, 'b')), Look.words(x));
        x.delete(0, 3);
        Check.due("a shorter text", 2, x.snapshot());
        Check.due("its words", List.of(w(0, 'a'), w(0, 'b')), Look.words(x));
        x.delete(0, 2);
        Check.due("no text", 0, x.snapshot());
        Check.due("no words", 0, x.told(4));
        Given.put(x, "bb");
        Check.due("another text", 2, x.snapshot());
        Check.due("its words", List.of(w(0, 'b'), w(1, 256)), Look.words(x));
    }

    private static void wordTells() {
        PieceText x = Given.of("abb");
        x.snapshot();
        Check.due("the first", (int) 'a', x.word(0));
        Check.due("the second", (int) 'b', x.word(1));
        Check.due("the last", w(2, 256), x.word(2));
        Check.changesNothing("word()", Given::some, y -> y.word(3));
    }

    private static void noSuchWord() {
        for (int i : new int[] {-1, 4, 5, MAX, MIN}) {
            Check.refused("word(" + i + ") of four", INDEX, Given::some, x -> x.word(i));
        }
        Check.refused("word(0) before snapshot()", INDEX, x -> Given.put(x, "ab"), x -> x.word(0));
        Check.refused("word(0) of no text", INDEX, Given.then(x -> { }, x -> x.snapshot()), x -> x.word(0));
        Check.refused("word(1) of a shorter one", INDEX, SnapshotTest::shorter, x -> x.word(1));
        Check.refused("word(240) of 240", INDEX, SnapshotTest::different240, x -> x.word(240));
    }

    /** A snapshot of one word, made behind one of three. */
    private static void shorter(PieceText x) {
        Given.put(x, "abc");
        x.snapshot();
        x.delete(0, 2);
        x.snapshot();
    }

    /** 240 words, of a text of as many different characters. */
    private static void different240(PieceText x) {
        for (int i = 0; i < 240; i++) {
            x.insert(i, i);
        }
        x.snapshot();
    }

    private static void pokeChangesAWord() {
        PieceText x = Given.of("abc");
        x.snapshot();
        Check.due("the first", (int) 'a', x.poke(0, 7));
        Check.due("the last", (int) 'c', x.poke(2, 8));
        Check.due("the words", List.of(7, (int) 'b', 8), Look.words(x));
        int was = 'b';
        for (int word : new int[] {-1, 0, 255, 256, 257, MIN, MAX, w(1, 256), w(300, 1), -257}) {
            Check.due("poke(1, " + word + ")", was, x.poke(1, word));
            Check.due("word(1)", word, x.word(1));
            was = word;
        }
        Check.due("the same once more", -257, x.poke(1, -257));
        Check.due("the words in the end", List.of(7, -257, 8), Look.words(x));
        Check.due("nothing else", List.of(3, 3, 0, 0, 3, 3), Look.counts(x));
        Check.due("nothing of the text", "abc", Look.text(x));
        PieceText y = Given.made(SnapshotTest::different240);
        Check.due("the last of 240", 239, y.poke(239, 5));
        Check.due("it is another", 5, y.word(239));
    }

    private static void pokeNoSuchWord() {
        for (int i : new int[] {-1, 4, 5, MAX, MIN}) {
            Check.refused("poke(" + i + ", 97) of four", INDEX, Given::some, x -> x.poke(i, 97));
        }
        Check.refused("poke(0, 97) before snapshot()", INDEX, x -> Given.put(x, "ab"), x -> x.poke(0, 97));
        Check.refused("poke(0, 97) of no text", INDEX, Given.then(x -> { }, x -> x.snapshot()), x -> x.poke(0, 97));
        Check.refused("poke(1, 97) of a shorter one", INDEX, SnapshotTest::shorter, x -> x.poke(1, 97));
        Check.refused("poke(240, 97) of 240", INDEX, SnapshotTest::different240, x -> x.poke(240, 97));
    }
}
