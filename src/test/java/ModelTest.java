import java.util.Random;
import java.util.function.IntSupplier;

/** All promises: long runs of calls, the same in every run of the test, answered as PlainText answers them. */
final class ModelTest {
    private static final int RUNS = 4000;
    // An object is promised for 512 calls. Every other run keeps some of them
    // for a look at the whole text, the others for the counts alone.
    private static final int CALLS = 265;
    private static final int CALLS_WITHOUT_TEXT = 505;
    private static final int[] ALPHABETS = {1, 2, 3, 26, 256};

    private final Random random;
    private final int alphabet;
    private final int run;
    private final PieceText x = new PieceText();
    private final PlainText plain = new PlainText();

    private ModelTest(int run) {
        this.run = run;
        random = new Random(run);
        alphabet = ALPHABETS[run % ALPHABETS.length];
    }

    public static void main(String[] args) {
        for (int run = 0; run < RUNS; run++) {
            int made = run;
            Check.sentence("run " + run, () -> new ModelTest(made).runOfCalls());
        }
        Check.end("ModelTest");
    }

    private void runOfCalls() {
        boolean withText = run % 2 == 0;
        for (int call = 0; call < (withText ? CALLS : CALLS_WITHOUT_TEXT); call++) {
            call(call);
        }
        lookAtCounts();
        if (withText) {
            lookAtText();
        }
    }

    private void same(String what, IntSupplier due, IntSupplier got) {
        // A lookup of the library's own throws a subclass.
        String want = Check.answer(due).replaceAll("(String|Array)IndexOutOf", "IndexOutOf");
        Check.due(what, want, Check.answer(got));
    }

    /** A number that is mostly one of 0 .. limit, sometimes next to it, rarely far off. */
    private int number(int limit) {
        int kind = random.nextInt(40);
        if (kind == 0) {
            return random.nextBoolean() ? -1 : limit + 1;
        }
        if (kind == 1) {
            return random.nextInt();
        }
        return kind < 6 ? limit : random.nextInt(limit + 1);
    }

    private int character() {
        int kind = random.nextInt(40);
        if (kind == 0) {
            return random.nextBoolean() ? -1 : 256;
        }
        return 255 - random.nextInt(alphabet);
    }

    private int newWord(int i) {
        int kind = random.nextInt(12);
        if (kind == 0) {
            return random.nextInt();
        }
        int c = kind == 1 ? 256 : 255 - random.nextInt(alphabet);
        return 257 * random.nextInt(Math.max(i, 0) % 300 + 2) + c;
    }

    private void call(int call) {
        int length = plain.length();
        int a = number(length);
        int b = number(length);
        int n = number(Math.max(0, length - a));
        int c = character();
        int i = number(plain.wordCount());
        int w = newWord(i);
        String what = "call " + call + " with " + a + ", " + b + ", " + n + ", " + c + ", " + i + ", " + w + " of ";
        int kind = random.nextInt(100);
        if (kind < 18) {
            same(what + "insert", () -> plain.insert(a, c), () -> x.insert(a, c));
        } else if (kind < 24) {
            same(what + "delete", () -> plain.delete(a, n), () -> x.delete(a, n));
        } else if (kind < 36) {
            same(what + "copy", () -> plain.copy(a, n, b), () -> x.copy(a, n, b));
        } else if (kind < 40) {
            same(what + "at", () -> plain.at(a), () -> x.at(a));
        } else if (kind < 48) {
            same(what + "undo", () -> plain.undo(), () -> x.undo());
        } else if (kind < 54) {
            same(what + "redo", () -> plain.redo(), () -> x.redo());
        } else if (kind < 60) {
            same(what + "pattern", () -> plain.pattern(c), () -> x.pattern(c));
        } else if (kind < 63) {
            same(what + "noPattern", () -> plain.noPattern(), () -> x.noPattern());
        } else if (kind < 69) {
            same(what + "find", () -> plain.find(a), () -> x.find(a));
        } else if (kind < 73) {
            same(what + "replace", () -> plain.replace(c), () -> x.replace(c));
        } else if (kind < 78) {
            same(what + "snapshot", () -> plain.snapshot(), () -> x.snapshot());
        } else if (kind < 84) {
            same(what + "word", () -> plain.word(i), () -> x.word(i));
        } else if (kind < 89) {
            same(what + "poke", () -> plain.poke(i, w), () -> x.poke(i, w));
        } else if (kind < 94) {
            same(what + "restore", () -> plain.restore(), () -> x.restore());
        } else if (kind < 99 || random.nextInt(5) > 0) {
            int told = number(5);
            same(what + "told " + told, () -> plain.told(told), () -> x.told(told));
        } else {
            plain.clear();
            x.clear();
        }
    }

    private void lookAtCounts() {
        for (int what = 0; what <= 6; what++) {
            int told = what;
            same("told(" + told + ") at the end", () -> plain.told(told), () -> x.told(told));
        }
    }

    private void lookAtText() {
        for (int place = 0; place < plain.length(); place++) {
            int here = place;
            same("at(" + here + ") at the end", () -> plain.at(here), () -> x.at(here));
        }
    }
}
