import java.util.List;

/** Promises 1 to 5 and 17: a new object, insert, delete, copy, at, clear. */
final class EditTest {
    private static final Class<IndexOutOfBoundsException> INDEX = IndexOutOfBoundsException.class;
    private static final Class<IllegalArgumentException> ARGUMENT = IllegalArgumentException.class;
    private static final int MAX = Integer.MAX_VALUE;
    private static final int MIN = Integer.MIN_VALUE;

    public static void main(String[] args) {
        newObject();
        insertPutsBeforeAPlace();
        insertRefuses();
        insertFillsTheText();
        deleteTakesOut();
        deleteRefuses();
        copyPutsIn();
        copyRefuses();
        copyFillsTheText();
        atTellsACharacter();
        clearForgetsAll();
        objectsAreApart();
        Check.end("EditTest");
    }

    private static void isAsAtFirst(String what, PieceText x) {
        Check.due(what + " has nothing", List.of(0, 0, 0, 0, 0, 0), Check.counts(x));
        Check.refused(what + ": at(0)", x, INDEX, () -> x.at(0));
        Check.refused(what + ": word(0)", x, INDEX, () -> x.word(0));
        Check.refused(what + ": undo()", x, IllegalStateException.class, () -> x.undo());
        Check.refused(what + ": redo()", x, IllegalStateException.class, () -> x.redo());
        Check.refused(what + ": replace(1)", x, IllegalStateException.class, () -> x.replace(1));
        Check.due(what + ": find(0)", 0, x.find(0));
        Check.due(what + ": noPattern()", 0, x.noPattern());
        Check.due(what + ": snapshot()", 0, x.snapshot());
        Check.due(what + ": insert(0, 7)", 1, x.insert(0, 7));
        Check.due(what + ": undo()", 0, x.undo());
    }

    private static void newObject() {
        Check.due("NONE", -1, PieceText.NONE);
        isAsAtFirst("a new object", new PieceText());
    }

    private static void insertPutsBeforeAPlace() {
        PieceText x = new PieceText();
        Check.due("insert into none", 1, x.insert(0, 'b'));
        Check.due("insert before the first", 2, x.insert(0, 'a'));
        Check.due("insert behind the last", 3, x.insert(2, 'd'));
        Check.due("insert between", 4, x.insert(2, 'c'));
        Check.due("text of four inserts", "abcd", Check.text(x));
        Check.due("insert the least character", 5, x.insert(4, 0));
        Check.due("insert the greatest character", 6, x.insert(0, 255));
        Check.due("text with both", "\u00ffabcd\0", Check.text(x));
        Check.due("actions of six inserts", 6, x.told(1));
    }

    /** A text with one action of the future behind it, so that a loss of the future shows. */
    private static PieceText undoneTo(String text) {
        PieceText x = Check.of(text + "q");
        x.undo();
        return x;
    }

    private static void refusedInsert(int place, int c, Class<? extends RuntimeException> due) {
        PieceText x = undoneTo("ab");
        Check.refused("insert(" + place + ", " + c + ")", x, due, () -> x.insert(place, c));
    }

    private static void insertRefuses() {
        refusedInsert(-1, 65, INDEX);
        refusedInsert(3, 65, INDEX);
        refusedInsert(MAX, 65, INDEX);
        refusedInsert(MIN, 65, INDEX);
        refusedInsert(2, -1, ARGUMENT);
        refusedInsert(2, 256, ARGUMENT);
        refusedInsert(0, MAX, ARGUMENT);
        refusedInsert(0, MIN, ARGUMENT);
        refusedInsert(3, 256, INDEX);
    }

    private static void insertFillsTheText() {
        PieceText x = Check.full('x');
        x.delete(0, 1);
        Check.due("the 240th character", 240, x.insert(239, 'y'));
        Check.due("the 241st", "throws.UnsupportedOperationException", Check.answer(() -> x.insert(0, 'z')));
        Check.due("the 241st, no place", "throws.IndexOutOfBoundsException", Check.answer(() -> x.insert(241, 'z')));
        Check.due("the 241st, no character", "throws.IllegalArgumentException", Check.answer(() -> x.insert(240, 256)));
        Check.due("a full text", List.of(240, 11, 0, 0, 0, 2), Check.counts(x));
        Check.due("its first", (int) 'x', x.at(0));
        Check.due("its last", (int) 'y', x.at(239));
        x.undo();
        Check.due("there is room again", 240, x.insert(0, 'z'));
    }

    private static void deleteTakesOut() {
        PieceText x = Check.of("abcdefg");
        Check.due("delete in the middle", 5, x.delete(2, 2));
        Check.due("text behind it", "abefg", Check.text(x));
        Check.due("delete the first", 4, x.delete(0, 1));
        Check.due("delete the last", 3, x.delete(3, 1));
        Check.due("text behind these", "bef", Check.text(x));
        Check.due("delete none", 3, x.delete(1, 0));
        Check.due("delete none behind the last", 3, x.delete(3, 0));
        Check.due("each is an action", 12, x.told(1));
        Check.due("delete all", 0, x.delete(0, 3));
        Check.due("delete none of none", 0, x.delete(0, 0));
        Check.due("no text", "", Check.text(x));
    }

    private static void refusedDelete(int place, int n, Class<? extends RuntimeException> due) {
        PieceText x = undoneTo("abc");
        Check.refused("delete(" + place + ", " + n + ")", x, due, () -> x.delete(place, n));
    }

    private static void deleteRefuses() {
        refusedDelete(-1, 0, INDEX);
        refusedDelete(4, 0, INDEX);
        refusedDelete(0, -1, ARGUMENT);
        refusedDelete(0, 4, ARGUMENT);
        refusedDelete(3, 1, ARGUMENT);
        refusedDelete(2, MAX, ARGUMENT);
        refusedDelete(2, MIN, ARGUMENT);
        refusedDelete(4, -1, INDEX);
    }

    private static void copyIs(String text, int place, int n, int to, String want) {
        String what = "copy(" + place + ", " + n + ", " + to + ") of " + text;
        PieceText x = Check.of(text);
        Check.due(what, want.length(), x.copy(place, n, to));
        Check.due("text behind " + what, want, Check.text(x));
        Check.due("actions behind " + what, text.length() + 1, x.told(1));
    }

    private static void copyPutsIn() {
        copyIs("abcde", 0, 2, 4, "abcdabe");
        copyIs("abcde", 3, 2, 1, "adebcde");
        copyIs("abcde", 1, 3, 2, "abbcdcde");
        copyIs("abcde", 1, 3, 1, "abcdbcde");
        copyIs("abcde", 1, 3, 4, "abcdbcde");
        copyIs("abcde", 0, 5, 5, "abcdeabcde");
        copyIs("abcde", 0, 5, 0, "abcdeabcde");
        copyIs("abcde", 4, 1, 0, "eabcde");
        copyIs("abcde", 5, 0, 5, "abcde");
        copyIs("abcde", 2, 0, 1, "abcde");
        copyIs("", 0, 0, 0, "");
    }

    private static void refusedCopy(int place, int n, int to, Class<? extends RuntimeException> due) {
        PieceText x = undoneTo("abc");
        Check.refused("copy(" + place + ", " + n + ", " + to + ")", x, due, () -> x.copy(place, n, to));
    }

    private static void copyRefuses() {
        refusedCopy(-1, 0, 0, INDEX);
        refusedCopy(4, 0, 0, INDEX);
        refusedCopy(0, 1, -1, INDEX);
        refusedCopy(0, 1, 4, INDEX);
        refusedCopy(0, -1, 0, ARGUMENT);
        refusedCopy(0, 4, 0, ARGUMENT);
        refusedCopy(3, 1, 0, ARGUMENT);
        refusedCopy(2, MAX, 0, ARGUMENT);
        refusedCopy(2, MIN, 0, ARGUMENT);
        refusedCopy(0, -1, 4, INDEX);
    }

    private static void copyFillsTheText() {
        PieceText x = Check.full('x');
        x.delete(0, 100);
        Check.due("one too many", "throws.UnsupportedOperationException", Check.answer(() -> x.copy(0, 101, 0)));
        Check.due("not so many", "throws.IllegalArgumentException", Check.answer(() -> x.copy(0, 141, 0)));
        Check.due("nothing changed", List.of(140, 10, 0, 0, 0, 1), Check.counts(x));
        Check.due("as many as there may be", 240, x.copy(40, 100, 140));
        Check.due("one more", "throws.UnsupportedOperationException", Check.answer(() -> x.copy(0, 1, 0)));
        Check.due("none more", 240, x.copy(0, 0, 0));
    }

    private static void atTellsACharacter() {
        PieceText x = Check.of("a\u00ff\0");
        Check.due("at(0)", (int) 'a', x.at(0));
        Check.due("at(1)", 255, x.at(1));
        Check.due("at(2)", 0, x.at(2));
        Check.refused("at(-1)", x, INDEX, () -> x.at(-1));
        Check.refused("at(3)", x, INDEX, () -> x.at(3));
        Check.refused("at(MAX)", x, INDEX, () -> x.at(MAX));
        x.undo();
        Check.refused("at(2) of what is undone", x, INDEX, () -> x.at(2));
        Check.due("the last of 240", (int) 'x', Check.full('x').at(239));
    }

    private static void clearForgetsAll() {
        PieceText x = Check.of("abcab");
        Check.setPattern(x, "ab");
        x.snapshot();
        x.undo();
        x.clear();
        isAsAtFirst("a cleared object", x);
        x.clear();
        x.insert(0, 'q');
        Check.due("the text behind clear()", "q", Check.text(x));
        Check.due("the past behind clear()", 1, x.told(1));
        PieceText y = new PieceText();
        y.clear();
        isAsAtFirst("a new object that is cleared", y);
    }

    private static void objectsAreApart() {
        PieceText x = Check.of("ab");
        PieceText y = Check.of("c");
        Check.setPattern(x, "b");
        x.snapshot();
        Check.due("another object", List.of(1, 1, 0, 0, 0, 1), Check.counts(y));
        y.clear();
        Check.due("cleared beside it", List.of(2, 2, 0, 1, 2, 2), Check.counts(x));
    }
}
