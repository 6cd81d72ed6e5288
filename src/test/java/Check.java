import java.util.ArrayList;
import java.util.List;

/** What the tests share: comparing answers, making texts and looking at an object from outside. */
final class Check {
    interface Call {
        int run();
    }

    private static int wrong = 0;

    private Check() {
    }

    static void due(String what, Object want, Object got) {
        if (!want.equals(got)) {
            wrong++;
            System.out.println(what + " answered " + got + ", due is " + want);
        }
    }

    /** The answer as a text, so that an exception is compared like a number. */
    static String answer(Call call) {
        try {
            return String.valueOf(call.run());
        } catch (RuntimeException e) {
            return "throws." + e.getClass().getSimpleName();
        }
    }

    /** The call is refused as is due, and all that can be seen of x is as before. */
    static void refused(String what, PieceText x, Class<? extends RuntimeException> due, Call call) {
        String before = all(x);
        due(what, "throws." + due.getSimpleName(), answer(call));
        due("what stands behind " + what, before, all(x));
    }

    static void end(String test) {
        if (wrong != 0) {
            System.out.println(test + ": " + wrong + " answers are not as due");
            System.exit(1);
        }
    }

    static PieceText of(String text) {
        PieceText x = new PieceText();
        for (int i = 0; i < text.length(); i++) {
            x.insert(i, text.charAt(i));
        }
        return x;
    }

    /** A text of 240 characters c, made in a few calls. */
    static PieceText full(int c) {
        PieceText x = new PieceText();
        x.insert(0, c);
        for (int length = 1; length < 240; length = x.told(0)) {
            x.copy(0, Math.min(length, 240 - length), 0);
        }
        return x;
    }

    static void setPattern(PieceText x, String pattern) {
        x.noPattern();
        for (int i = 0; i < pattern.length(); i++) {
            x.pattern(pattern.charAt(i));
        }
    }

    static String text(PieceText x) {
        StringBuilder text = new StringBuilder();
        for (int i = 0; i < x.told(0); i++) {
            text.append((char) x.at(i));
        }
        return text.toString();
    }

    static List<Integer> words(PieceText x) {
        List<Integer> words = new ArrayList<>();
        for (int i = 0; i < x.told(4); i++) {
            words.add(x.word(i));
        }
        return words;
    }

    static List<Integer> counts(PieceText x) {
        return List.of(x.told(0), x.told(1), x.told(2), x.told(3), x.told(4), x.told(5));
    }

    /** All that can be seen of x; for short texts, as an object has 512 calls only. */
    static String all(PieceText x) {
        List<Object> seen = new ArrayList<>();
        seen.add(counts(x));
        seen.add(words(x));
        seen.add(x.find(0));
        seen.add(text(x));
        int past = x.told(1);
        int future = x.told(2);
        for (int i = 0; i < past; i++) {
            x.undo();
            seen.add(text(x));
        }
        for (int i = 0; i < past + future; i++) {
            x.redo();
            seen.add(i < past ? "" : text(x));
        }
        for (int i = 0; i < future; i++) {
            x.undo();
        }
        return seen.toString();
    }
}
