/** Bringing objects into states, each in few calls, as an object has 512 of them. */
final class Given {
    private Given() {
    }

    static PieceText made(Check.Steps state) {
        PieceText x = new PieceText();
        state.on(x);
        return x;
    }

    /** A state, and a call behind it, whatever that answers or throws. */
    static Check.Steps then(Check.Steps state, Check.Call call) {
        return x -> {
            state.on(x);
            Check.answer(x, call);
        };
    }

    static PieceText of(String text) {
        return made(x -> put(x, text));
    }

    /** Puts a text behind the text, a character an action. */
    static void put(PieceText x, String text) {
        int length = x.told(0);
        for (int i = 0; i < text.length(); i++) {
            x.insert(length + i, text.charAt(i));
        }
    }

    /** Makes an object without a text have n characters c; 240 of them are nine actions. */
    static void fill(PieceText x, int c, int n) {
        x.insert(0, c);
        for (int length = 1; length < n; length += Math.min(length, n - length)) {
            x.copy(0, Math.min(length, n - length), 0);
        }
    }

    static void undo(PieceText x, int times) {
        for (int i = 0; i < times; i++) {
            x.undo();
        }
    }

    static void redo(PieceText x, int times) {
        for (int i = 0; i < times; i++) {
            x.redo();
        }
    }

    static void pattern(PieceText x, String pattern) {
        x.noPattern();
        for (int i = 0; i < pattern.length(); i++) {
            x.pattern(pattern.charAt(i));
        }
    }

    /** Makes an object without a text have a snapshot of just these words, and as many characters: 0, 1, 2, .. */
    static void words(PieceText x, int... words) {
        for (int i = 0; i < words.length; i++) {
            x.insert(i, i);
        }
        x.snapshot();
        for (int i = 0; i < words.length; i++) {
            x.poke(i, words[i]);
        }
    }

    static int word(int k, int c) {
        return 257 * k + c;
    }

    /**
     * Some of everything: the text abc, three actions of the past and two of
     * the future, a pattern that occurs, and a snapshot that can't be restored.
     */
    static void some(PieceText x) {
        put(x, "abcab");
        pattern(x, "ab");
        x.snapshot();
        x.poke(1, -7);
        undo(x, 2);
    }

    /** The most of everything: 240 characters, ten actions of the past and two of the future, a pattern of 16. */
    static void most(PieceText x) {
        fill(x, 'x', 239);
        put(x, "y");
        x.copy(5, 0, 7);
        x.delete(238, 2);
        x.delete(0, 100);
        undo(x, 2);
        pattern(x, "xxxxxxxxxxxxxxxy");
        x.snapshot();
    }
}
