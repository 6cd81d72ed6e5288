import java.util.ArrayList;
import java.util.List;

/** Looking at objects from outside. */
final class Look {
    private Look() {
    }

    static String text(PieceText x) {
        int length = x.told(0);
        StringBuilder text = new StringBuilder();
        for (int i = 0; i < length; i++) {
            text.append((char) x.at(i));
        }
        return text.toString();
    }

    static List<Integer> words(PieceText x) {
        int count = x.told(4);
        List<Integer> words = new ArrayList<>();
        for (int i = 0; i < count; i++) {
            words.add(x.word(i));
        }
        return words;
    }

    /** Length, past, future, pattern, snapshot, different characters. */
    static List<Integer> counts(PieceText x) {
        return List.of(x.told(0), x.told(1), x.told(2), x.told(3), x.told(4), x.told(5));
    }

    /**
     * All that can be seen of an object in a state, each long look at one made
     * anew. Where the pattern occurs in one of the texts tells its characters, too.
     */
    static List<Object> everything(Check.Steps state) {
        PieceText x = Given.made(state);
        List<Object> seen = new ArrayList<>();
        seen.add(counts(x));
        seen.add(x.find(0));
        seen.add(words(x));
        seen.add(text(Given.made(state)));
        int past = x.told(1);
        int future = x.told(2);
        for (int done = 0; done <= past + future; done++) {
            PieceText y = Given.made(state);
            Given.undo(y, past);
            Given.redo(y, done);
            seen.add(text(y));
            seen.add(y.find(0));
        }
        return seen;
    }
}
