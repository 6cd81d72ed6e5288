import java.util.LinkedHashMap;
import java.util.List;
import java.util.Map;

/** Actions, the past and the future, and promises 6 and 7: undo, redo. */
final class ActionTest {
    private static final Class<IllegalStateException> STATE = IllegalStateException.class;
    private static final String THROWS_STATE = "throws.IllegalStateException";

    public static void main(String[] args) {
        Check.sentence("Each edit is an ACTION: it goes behind the PAST", ActionTest::editGoesBehindThePast);
        Check.sentence("what stood in the FUTURE is gone", ActionTest::futureIsGone);
        Check.sentence("the past keeps the latest 12", ActionTest::pastKeepsTwelve);
        Check.sentence("the past keeps the latest 12 (of each kind)", ActionTest::pastKeepsTwelveOfEachKind);
        Check.sentence("the past keeps the latest 12 (of many more)", ActionTest::pastKeepsTwelveOfMany);
        Check.sentence("the past keeps the latest 12 (of full texts)", ActionTest::pastKeepsTwelveFullTexts);
        Check.sentence("UNDOING takes the last one of the past back, and puts it before the future",
            ActionTest::undoing);
        Check.sentence("DOING AGAIN does the first one of the future, and puts it behind the past",
            ActionTest::doingAgain);
        Check.sentence("DOING AGAIN does the first one of the future (as it was done)", ActionTest::doneAgainAsItWas);
        Check.sentence("An edit that changes nothing, like taking out none, is an action, too",
            ActionTest::idleEditIsAnAction);
        Check.sentence("An edit that changes nothing (ends the future)", ActionTest::idleEditEndsTheFuture);
        Check.sentence("one that is refused is none", ActionTest::refusedEditIsNone);
        Check.sentence("Each edit is an ACTION (and no other call)", ActionTest::otherCallsAreNone);
        Check.sentence("The latest action is undone (of the text alone)", ActionTest::undoLeavesTheRest);
        Check.sentence("IllegalState: the past has none", ActionTest::pastHasNone);
        Check.sentence("IllegalState: the future has none", ActionTest::futureHasNone);
        Check.end("ActionTest");
    }

    /** The text abab by four actions, a pattern ab and a snapshot of aba: each edit has something to do. */
    private static void ready(PieceText x) {
        Given.put(x, "aba");
        x.snapshot();
        Given.put(x, "b");
        Given.pattern(x, "ab");
    }

    /** Each kind of edit, by the text that it makes of the one of ready(). */
    private static Map<String, Check.Call> edits() {
        Map<String, Check.Call> edits = new LinkedHashMap<>();
        edits.put("abxab", x -> x.insert(2, 'x'));
        edits.put("ab", x -> x.delete(1, 2));
        edits.put("aabbab", x -> x.copy(0, 2, 1));
        edits.put("zz", x -> x.replace('z'));
        edits.put("aba", x -> x.restore());
        return edits;
    }

    /** Each kind of edit that leaves the text of ready() as it is. */
    private static Map<String, Check.Call> idleEdits() {
        Map<String, Check.Call> edits = new LinkedHashMap<>();
        edits.put("delete none", x -> x.delete(1, 0));
        edits.put("delete none behind the last", x -> x.delete(4, 0));
        edits.put("copy none", x -> x.copy(2, 0, 1));
        edits.put("copy none behind the last", x -> x.copy(4, 0, 4));
        edits.put("replace what does not occur", x -> {
            Given.pattern(x, "q");
            return x.replace('z');
        });
        edits.put("replace a character by itself", x -> {
            Given.pattern(x, "b");
            return x.replace('b');
        });
        edits.put("restore the same text", x -> {
            x.snapshot();
            return x.restore();
        });
        return edits;
    }

    private static List<Integer> pastAndFuture(PieceText x) {
        return List.of(x.told(1), x.told(2));
    }

    private static void editGoesBehindThePast() {
        edits().forEach((text, edit) -> {
            PieceText x = Given.made(Given.then(ActionTest::ready, edit));
            Check.due("the edit to " + text, text, Look.text(x));
            Check.due("past and future behind it", List.of(5, 0), pastAndFuture(x));
            Check.due("undo() of it", 4, x.undo());
            Check.due("text behind that", "abab", Look.text(x));
            Check.due("past and future behind that", List.of(4, 1), pastAndFuture(x));
            Check.due("redo() of it", text.length(), x.redo());
            Check.due("text done again", text, Look.text(x));
            Check.due("past and future in the end", List.of(5, 0), pastAndFuture(x));
        });
    }

    /** The state of ready(), and two more actions that are undone. */
    private static void readyWithFuture(PieceText x) {
        ready(x);
        Given.put(x, "cd");
        Given.undo(x, 2);
    }

    private static void futureIsGone() {
        edits().forEach((text, edit) -> {
            Check.Steps edited = Given.then(ActionTest::readyWithFuture, edit);
            Check.due("past and future with " + text, List.of(5, 0), pastAndFuture(Given.made(edited)));
            Check.refused("redo() with " + text, STATE, edited, x -> x.redo());
            PieceText x = Given.made(edited);
            Given.undo(x, 5);
            Given.redo(x, 5);
            Check.due("text undone and done again", text, Look.text(x));
            Check.due("redo() behind that", THROWS_STATE, Check.answer(x, y -> y.redo()));
        });
    }

    private static void pastKeepsTwelve() {
        for (int n = 1; n <= 14; n++) {
            PieceText x = Given.of("abcdefghijklmn".substring(0, n));
            int kept = Math.min(n, 12);
            Check.due(n + " actions", List.of(kept, 0), pastAndFuture(x));
            for (int i = 1; i <= kept; i++) {
                Check.due("undo() " + i + " of " + n, n - i, x.undo());
                Check.due("past and future behind it", List.of(kept - i, i), pastAndFuture(x));
            }
            Check.due("undo() before these", THROWS_STATE, Check.answer(x, y -> y.undo()));
            for (int i = 1; i <= kept; i++) {
                Check.due("redo() " + i + " of " + n, n - kept + i, x.redo());
            }
            Check.due("redo() behind these", THROWS_STATE, Check.answer(x, y -> y.redo()));
            Check.due("text done again", "abcdefghijklmn".substring(0, n), Look.text(x));
        }
    }

    private static void pastKeepsTwelveOfEachKind() {
        edits().forEach((text, edit) -> {
            PieceText x = Given.made(y -> {
                ready(y);
                Given.put(y, "cdefghi");
                y.delete(4, 7);
                edit.on(y);
            });
            Check.due("the thirteenth to " + text, List.of(12, 0), pastAndFuture(x));
            Given.undo(x, 12);
            Check.due("text before the latest twelve", "a", Look.text(x));
            Check.due("undo() there", THROWS_STATE, Check.answer(x, y -> y.undo()));
            Given.redo(x, 12);
            Check.due("text done again", text, Look.text(x));
        });
    }

    private static void pastKeepsTwelveOfMany() {
        PieceText x = new PieceText();
        for (int i = 0; i < 100; i++) {
            x.insert(0, i);
            Check.due("actions of " + (i + 1), Math.min(i + 1, 12), x.told(1));
        }
        for (int i = 99; i >= 88; i--) {
            Check.due("undo() to " + i, i, x.undo());
            Check.due("its first", i - 1, x.at(0));
        }
        Check.due("undo() of the 88th", THROWS_STATE, Check.answer(x, y -> y.undo()));
        for (int i = 88; i < 100; i++) {
            Check.due("redo() to " + (i + 1), i + 1, x.redo());
            Check.due("its first", i, x.at(0));
        }
        Check.due("redo() of the 101st", THROWS_STATE, Check.answer(x, y -> y.redo()));
    }

    private static void pastKeepsTwelveFullTexts() {
        Check.Steps full = x -> {
            Given.fill(x, 'a', 240);
            for (char c = 'a'; c < 'o'; c++) {
                Given.pattern(x, String.valueOf(c));
                x.replace(c + 1);
            }
        };
        for (int back = 0; back <= 12; back++) {
            PieceText x = Given.made(full);
            Given.undo(x, back);
            Check.due("text undone " + back + " times", String.valueOf((char) ('o' - back)).repeat(240), Look.text(x));
        }
        PieceText x = Given.made(full);
        Given.undo(x, 12);
        Check.due("undo() of the thirteenth", THROWS_STATE, Check.answer(x, y -> y.undo()));
    }

    private static void undoing() {
        PieceText x = Given.of("abcd");
        Check.due("undo() of d", 3, x.undo());
        Check.due("text behind it", "abc", Look.text(x));
        Check.due("undo() of c", 2, x.undo());
        Check.due("text behind it", "ab", Look.text(x));
        Check.due("past and future", List.of(2, 2), pastAndFuture(x));
        x.redo();
        Check.due("the first of the future is the one undone last", "abc", Look.text(x));
        x.undo();
        x.undo();
        x.undo();
        Check.due("all undone", List.of(0, 0, 4, 0, 0, 0), Look.counts(x));
    }

    private static void doingAgain() {
        PieceText x = Given.of("abcd");
        Given.undo(x, 3);
        Check.due("redo() of b", 2, x.redo());
        Check.due("text behind it", "ab", Look.text(x));
        Check.due("past and future", List.of(2, 2), pastAndFuture(x));
        Check.due("redo() of c", 3, x.redo());
        Check.due("text behind it", "abc", Look.text(x));
        x.undo();
        Check.due("the last of the past is the one done again last", "ab", Look.text(x));
        x.delete(0, 1);
        x.undo();
        Check.due("past and future behind an edit that is undone", List.of(2, 1), pastAndFuture(x));
        x.redo();
        Check.due("the edit done again, not c", "b", Look.text(x));
    }

    private static void doneAgainAsItWas() {
        PieceText x = Given.of("aabb");
        x.snapshot();
        Given.pattern(x, "a");
        x.replace('c');
        x.restore();
        Given.undo(x, 2);
        Given.pattern(x, "b");
        x.poke(0, -1);
        Check.due("redo() of replace()", 4, x.redo());
        Check.due("though the pattern is another", "ccbb", Look.text(x));
        Check.due("redo() of restore()", 4, x.redo());
        Check.due("though the snapshot is another", "aabb", Look.text(x));
        Check.due("the pattern and the snapshot stay", List.of(4, 6, 0, 1, 3, 2), Look.counts(x));
        Given.undo(x, 2);
        x.noPattern();
        x.poke(0, 'q');
        Check.due("redo() of replace() without a pattern", 4, x.redo());
        Check.due("is what it was", "ccbb", Look.text(x));
        Check.due("redo() of restore() with words that would make qqbb", 4, x.redo());
        Check.due("is what it was, too", "aabb", Look.text(x));
    }

    private static void idleEditIsAnAction() {
        idleEdits().forEach((what, edit) -> {
            PieceText x = Given.made(ActionTest::ready);
            edit.on(x);
            Check.due(what, "abab", Look.text(x));
            Check.due("past and future behind it", List.of(5, 0), pastAndFuture(x));
            Check.due("undo() of it", 4, x.undo());
            Check.due("past and future behind undo()", List.of(4, 1), pastAndFuture(x));
            Check.due("text behind undo()", "abab", Look.text(x));
            Check.due("redo() of it", 4, x.redo());
            Check.due("past and future behind redo()", List.of(5, 0), pastAndFuture(x));
            Given.undo(x, 2);
            Check.due("text before it", "aba", Look.text(x));
        });
        PieceText x = new PieceText();
        Check.due("restore() of no word to no text", 0, x.restore());
        Check.due("delete() of none from none", 0, x.delete(0, 0));
        Check.due("copy() of none from none", 0, x.copy(0, 0, 0));
        x.pattern('a');
        Check.due("replace() of none in none", 0, x.replace('b'));
        Check.due("past and future of an empty text", List.of(4, 0), pastAndFuture(x));
    }

    private static void idleEditEndsTheFuture() {
        idleEdits().forEach((what, edit) -> {
            PieceText x = Given.made(ActionTest::readyWithFuture);
            Check.due("past and future before " + what, List.of(4, 2), pastAndFuture(x));
            edit.on(x);
            Check.due("past and future behind " + what, List.of(5, 0), pastAndFuture(x));
            Check.due("redo() behind " + what, THROWS_STATE, Check.answer(x, y -> y.redo()));
        });
        PieceText x = new PieceText();
        for (int i = 0; i < 13; i++) {
            x.delete(0, 0);
        }
        Check.due("past and future of thirteen", List.of(12, 0), pastAndFuture(x));
    }

    private static void refusedEditIsNone() {
        Check.Steps some = Given::some;
        Check.Steps most = Given::most;
        Check.refused("insert()", IndexOutOfBoundsException.class, some, x -> x.insert(4, 'a'));
        Check.refused("insert() of one too many", UnsupportedOperationException.class, most, x -> x.insert(0, 'a'));
        Check.refused("delete()", IllegalArgumentException.class, some, x -> x.delete(3, 1));
        Check.refused("copy()", IllegalArgumentException.class, some, x -> x.copy(3, 1, 0));
        Check.refused("copy() of one too many", UnsupportedOperationException.class, most, x -> x.copy(0, 1, 0));
        Check.refused("replace()", IllegalArgumentException.class, some, x -> x.replace(256));
        Check.refused("replace() of nothing", STATE, Given.then(some, x -> x.noPattern()), x -> x.replace('a'));
        Check.due("restore()", -2, Given.made(some).restore());
        Check.changesNothing("restore()", some, x -> x.restore());
        PieceText x = Given.made(some);
        x.restore();
        Check.due("redo() behind a refused one", 4, x.redo());
        Check.due("text done again", "abca", Look.text(x));
    }

    private static void otherCallsAreNone() {
        PieceText x = Given.made(ActionTest::readyWithFuture);
        x.at(0);
        x.pattern('a');
        x.noPattern();
        x.find(0);
        x.snapshot();
        x.word(0);
        x.poke(0, 5);
        x.told(5);
        Check.due("past and future", List.of(4, 2), pastAndFuture(x));
        Check.due("text", "abab", Look.text(x));
        Given.redo(x, 2);
        Check.due("text done again", "ababcd", Look.text(x));
    }

    private static void undoLeavesTheRest() {
        PieceText x = Given.of("ab");
        x.snapshot();
        x.poke(0, 5);
        x.pattern('b');
        x.undo();
        Check.due("undo() leaves the pattern and the snapshot", List.of(1, 1, 1, 1, 2, 1), Look.counts(x));
        Check.due("and their words", List.of(5, (int) 'b'), Look.words(x));
        x.redo();
        Check.due("redo() leaves them, too", List.of(2, 2, 0, 1, 2, 2), Look.counts(x));
        Check.due("and the character", 1, x.find(0));
    }

    private static void pastHasNone() {
        Check.refused("undo() at first", STATE, x -> { }, x -> x.undo());
        Check.refused("undo() of all and one more", STATE, x -> {
            ready(x);
            Given.undo(x, 4);
        }, x -> x.undo());
        Check.refused("undo() of a thirteenth", STATE, x -> {
            Given.most(x);
            Given.undo(x, 10);
        }, x -> x.undo());
        PieceText x = Given.of("a");
        Check.due("undo() of the only one", 0, x.undo());
    }

    private static void futureHasNone() {
        Check.refused("redo() at first", STATE, x -> { }, x -> x.redo());
        Check.refused("redo() with a past alone", STATE, ActionTest::ready, x -> x.redo());
        Check.refused("redo() of all and one more", STATE, x -> {
            Given.most(x);
            Given.redo(x, 2);
        }, x -> x.redo());
        PieceText x = Given.of("a");
        x.undo();
        Check.due("redo() of the only one", 1, x.redo());
    }
}
