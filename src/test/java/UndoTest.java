import java.util.List;

/** Promises 6, 7 and the counts of promise 16: undo, redo, and what the past and the future keep. */
final class UndoTest {
    private static final Class<IllegalStateException> STATE = IllegalStateException.class;

    public static void main(String[] args) {
        everyKindOfAction();
        pastKeepsTwelve();
        ringGoesRound();
        editForgetsTheFuture();
        refusedEditKeepsTheFuture();
        looksAreNoActions();
        doneAgainAsItWasDone();
        actionsThatChangeNothing();
        Check.end("UndoTest");
    }

    private static void everyKindOfAction() {
        PieceText x = Check.of("abab");
        Check.setPattern(x, "ab");
        x.snapshot();
        x.copy(0, 2, 1);
        x.delete(0, 1);
        x.replace('z');
        x.restore();
        Check.due("the text", "abab", Check.text(x));
        String[] texts = {"abab", "aabbab", "abbab", "zbz", "abab"};
        for (int i = texts.length - 2; i >= 0; i--) {
            Check.due("undo() to " + texts[i], texts[i].length(), x.undo());
            Check.due("text behind undo()", texts[i], Check.text(x));
            Check.due("past behind undo()", 4 + i, x.told(1));
            Check.due("future behind undo()", 4 - i, x.told(2));
        }
        for (int i = 1; i < texts.length; i++) {
            Check.due("redo() to " + texts[i], texts[i].length(), x.redo());
            Check.due("text behind redo()", texts[i], Check.text(x));
            Check.due("past behind redo()", 4 + i, x.told(1));
            Check.due("future behind redo()", 4 - i, x.told(2));
        }
        Check.refused("redo() of none", x, STATE, () -> x.redo());
    }

    private static void pastKeepsTwelve() {
        PieceText x = Check.of("abcdefghijkl");
        Check.due("twelve actions", 12, x.told(1));
        x.insert(12, 'm');
        Check.due("thirteen actions", 12, x.told(1));
        for (int length = 12; length >= 1; length--) {
            Check.due("undo() to " + length, length, x.undo());
        }
        Check.due("undo() of the thirteenth", "throws.IllegalStateException", Check.answer(() -> x.undo()));
        Check.due("counts at the start of the past", List.of(1, 0, 12, 0, 0, 1), Check.counts(x));
        for (int length = 2; length <= 13; length++) {
            Check.due("redo() to " + length, length, x.redo());
        }
        Check.due("redo() of the thirteenth", "throws.IllegalStateException", Check.answer(() -> x.redo()));
        Check.due("text done again", "abcdefghijklm", Check.text(x));
    }

    private static void ringGoesRound() {
        PieceText x = new PieceText();
        for (int i = 0; i < 40; i++) {
            x.insert(0, i);
        }
        for (int i = 0; i < 12; i++) {
            x.undo();
        }
        Check.due("the oldest text that is kept", 28, x.told(0));
        Check.due("its first", 27, x.at(0));
        Check.due("its last", 0, x.at(27));
        Check.due("undo() before it", "throws.IllegalStateException", Check.answer(() -> x.undo()));
        for (int i = 0; i < 12; i++) {
            x.redo();
            Check.due("done again", 28 + i, x.at(0));
        }
        Check.due("redo() behind it", "throws.IllegalStateException", Check.answer(() -> x.redo()));
    }

    private static void editForgetsTheFuture() {
        PieceText x = Check.of("abcd");
        x.undo();
        x.undo();
        Check.due("future", 2, x.told(2));
        x.delete(0, 1);
        Check.due("counts behind an edit", List.of(1, 3, 0, 0, 0, 1), Check.counts(x));
        Check.refused("redo() behind an edit", x, STATE, () -> x.redo());
        x.undo();
        Check.due("text before the edit", "ab", Check.text(x));
        x.redo();
        Check.due("the edit done again", "b", Check.text(x));
        x.undo();
        x.snapshot();
        x.restore();
        Check.due("restore() forgets it, too", 0, x.told(2));
        x.undo();
        Check.setPattern(x, "q");
        x.replace(1);
        Check.due("replace() of none forgets it, too", 0, x.told(2));
    }

    private static void refusedEditKeepsTheFuture() {
        PieceText x = Check.of("abab");
        x.snapshot();
        x.poke(2, 257 * 3);
        x.undo();
        x.undo();
        String before = Check.all(x);
        Check.due("a row that is none", -3, x.restore());
        Check.due("all behind it", before, Check.all(x));
    }

    private static void looksAreNoActions() {
        PieceText x = Check.of("abc");
        x.undo();
        x.snapshot();
        x.poke(0, 5);
        x.pattern('a');
        x.find(0);
        x.noPattern();
        x.at(0);
        x.word(0);
        x.told(5);
        Check.due("counts behind no action", List.of(2, 2, 1, 0, 2, 2), Check.counts(x));
        x.pattern('b');
        x.undo();
        Check.due("undo() leaves the pattern and the snapshot", List.of(1, 1, 2, 1, 2, 1), Check.counts(x));
        Check.due("and what was poked", 5, x.word(0));
    }

    private static void doneAgainAsItWasDone() {
        PieceText x = Check.of("aabb");
        x.snapshot();
        Check.setPattern(x, "a");
        x.replace('c');
        x.restore();
        x.undo();
        x.undo();
        Check.setPattern(x, "b");
        x.poke(0, -1);
        x.redo();
        Check.due("replaced with another pattern set", "ccbb", Check.text(x));
        x.redo();
        Check.due("restored with another snapshot", "aabb", Check.text(x));
    }

    private static void actionsThatChangeNothing() {
        PieceText x = Check.of("ab");
        Check.setPattern(x, "q");
        x.delete(2, 0);
        x.copy(0, 0, 0);
        x.replace('r');
        Check.due("five actions", 5, x.told(1));
        Check.due("undo() of nothing", 2, x.undo());
        Check.due("four actions", 4, x.told(1));
        Check.due("one to do again", 1, x.told(2));
        Check.due("redo() of nothing", 2, x.redo());
        Check.due("five actions again", 5, x.told(1));
    }
}
