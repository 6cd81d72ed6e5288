import java.util.List;

/** Promises 16 and 17: told, clear. */
final class ToldTest {
    private static final int MAX = Integer.MAX_VALUE;
    private static final int MIN = Integer.MIN_VALUE;

    public static void main(String[] args) {
        Check.sentence("Length (what = 0)", ToldTest::length);
        Check.sentence("actions of the past (1)", ToldTest::actionsOfThePast);
        Check.sentence("of the future (2)", ToldTest::actionsOfTheFuture);
        Check.sentence("characters of the pattern (3)", ToldTest::charactersOfThePattern);
        Check.sentence("words of the snapshot (4)", ToldTest::wordsOfTheSnapshot);
        Check.sentence("different characters of the text (5)", ToldTest::differentCharacters);
        Check.sentence("NONE for another what", ToldTest::anotherWhat);
        Check.sentence("told (changes nothing)", ToldTest::changesNothing);
        Check.sentence("All is as at first", ToldTest::allIsAsAtFirst);
        Check.sentence("All is as at first (and goes on so)", ToldTest::goesOnAsAtFirst);
        Check.end("ToldTest");
    }

    private static void length() {
        PieceText x = new PieceText();
        Check.due("at first", 0, x.told(0));
        Given.put(x, "abc");
        Check.due("of three", 3, x.told(0));
        x.delete(0, 2);
        Check.due("of one", 1, x.told(0));
        x.undo();
        Check.due("of three again", 3, x.told(0));
        Check.due("of 240", 240, Given.made(Given::most).told(0));
    }

    private static void actionsOfThePast() {
        PieceText x = new PieceText();
        for (int i = 1; i <= 20; i++) {
            x.insert(0, i);
            Check.due("behind " + i, Math.min(i, 12), x.told(1));
        }
        for (int i = 11; i >= 0; i--) {
            x.undo();
            Check.due("undone to " + i, i, x.told(1));
        }
        for (int i = 1; i <= 12; i++) {
            x.redo();
            Check.due("done again to " + i, i, x.told(1));
        }
    }

    private static void actionsOfTheFuture() {
        PieceText x = new PieceText();
        for (int i = 1; i <= 20; i++) {
            x.insert(0, i);
            Check.due("behind " + i, 0, x.told(2));
        }
        for (int i = 1; i <= 12; i++) {
            x.undo();
            Check.due("undone " + i, i, x.told(2));
        }
        x.redo();
        Check.due("one done again", 11, x.told(2));
        x.insert(0, 1);
        Check.due("behind an edit", 0, x.told(2));
    }

    private static void charactersOfThePattern() {
        PieceText x = new PieceText();
        for (int i = 0; i < 16; i++) {
            Check.due("of " + i, i, x.told(3));
            x.pattern(i);
        }
        Check.due("of sixteen", 16, x.told(3));
        x.noPattern();
        Check.due("of none any more", 0, x.told(3));
    }

    private static void wordsOfTheSnapshot() {
        PieceText x = Given.of("aab");
        Check.due("before snapshot()", 0, x.told(4));
        x.snapshot();
        Check.due("of two", 2, x.told(4));
        x.insert(3, 'c');
        Check.due("not those of another text", 2, x.told(4));
        x.snapshot();
        Check.due("of three", 3, x.told(4));
        x.poke(0, -1);
        x.restore();
        Check.due("behind a refused restore()", 3, x.told(4));
    }

    private static void differentCharacters() {
        Check.due("of none", 0, new PieceText().told(5));
        Check.due("of one", 1, Given.of("a").told(5));
        Check.due("of three like ones", 1, Given.of("aaa").told(5));
        Check.due("of two kinds", 2, Given.of("aabbaa").told(5));
        Check.due("of the least and the greatest", 2, Given.of("\0\u00ff\0").told(5));
        PieceText x = new PieceText();
        for (int i = 1; i <= 240; i++) {
            x.insert(0, 256 - i);
            Check.due("of " + i, i, x.told(5));
        }
        x.delete(10, 40);
        Check.due("of 200", 200, x.told(5));
        Check.due("once more", 200, x.told(5));
        x.undo();
        Check.due("of 240 again", 240, x.told(5));
    }

    private static void anotherWhat() {
        PieceText x = Given.made(Given::some);
        for (int what : new int[] {-1, -2, 6, 7, 8, 255, 256, 257, MAX, MIN}) {
            Check.due("told(" + what + ")", -1, x.told(what));
        }
    }

    private static void changesNothing() {
        for (int what = -1; what <= 6; what++) {
            int asked = what;
            Check.changesNothing("told(" + what + ")", Given::some, x -> x.told(asked));
        }
        Check.due("each of them", List.of(3, 3, 2, 2, 4, 3), Look.counts(Given.made(Given::some)));
    }

    private static int cleared(PieceText x) {
        x.clear();
        return 0;
    }

    private static void allIsAsAtFirst() {
        List<Object> first = Look.everything(x -> { });
        Check.due("behind some of everything", first, Look.everything(Given.then(Given::some, ToldTest::cleared)));
        Check.due("behind the most of everything", first, Look.everything(Given.then(Given::most, ToldTest::cleared)));
        Check.due("at first", first, Look.everything(ToldTest::cleared));
        for (Check.Steps state : List.<Check.Steps>of(Given::some, Given::most)) {
            Check.Steps cleared = Given.then(state, ToldTest::cleared);
            Check.refused("at(0)", IndexOutOfBoundsException.class, cleared, x -> x.at(0));
            Check.refused("word(0)", IndexOutOfBoundsException.class, cleared, x -> x.word(0));
            Check.refused("find(1)", IndexOutOfBoundsException.class, cleared, x -> x.find(1));
            Check.refused("undo()", IllegalStateException.class, cleared, x -> x.undo());
            Check.refused("redo()", IllegalStateException.class, cleared, x -> x.redo());
            Check.refused("replace('a')", IllegalStateException.class, cleared, x -> x.replace('a'));
            Check.due("noPattern()", 0, Given.made(cleared).noPattern());
            Check.due("snapshot()", 0, Given.made(cleared).snapshot());
            Check.due("restore()", 0, Given.made(cleared).restore());
        }
    }

    private static void goesOnAsAtFirst() {
        for (Check.Steps state : List.<Check.Steps>of(Given::some, Given::most)) {
            Check.Steps anew = x -> {
                state.on(x);
                x.clear();
                Given.some(x);
            };
            Check.due("some of everything again", Look.everything(Given::some), Look.everything(anew));
            Check.Steps full = x -> {
                state.on(x);
                x.clear();
                Given.most(x);
            };
            Check.due("the most of everything again", Look.everything(Given::most), Look.everything(full));
        }
    }
}
