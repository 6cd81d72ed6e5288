import java.util.List;

/** Promises 8 to 11: pattern, noPattern, find, replace. */
final class PatternTest {
    private static final Class<IndexOutOfBoundsException> INDEX = IndexOutOfBoundsException.class;
    private static final Class<IllegalArgumentException> ARGUMENT = IllegalArgumentException.class;
    private static final Class<IllegalStateException> STATE = IllegalStateException.class;
    private static final Class<UnsupportedOperationException> UNSUPPORTED = UnsupportedOperationException.class;

    public static void main(String[] args) {
        patternGrows();
        patternEnds();
        patternIsTakenAway();
        findGoesOn();
        findOfNoCharacters();
        findRefuses();
        findOfSixteen();
        replaceGoesFromTheLeft();
        replaceRefuses();
        replaceInAFullText();
        Check.end("PatternTest");
    }

    private static void patternGrows() {
        PieceText x = Check.of("ab\0\u00ff");
        Check.due("first character", 1, x.pattern(0));
        Check.due("second character", 2, x.pattern(255));
        Check.due("told(3)", 2, x.told(3));
        Check.due("found", 2, x.find(0));
        Check.refused("pattern(-1)", x, ARGUMENT, () -> x.pattern(-1));
        Check.refused("pattern(256)", x, ARGUMENT, () -> x.pattern(256));
    }

    private static void patternEnds() {
        PieceText x = Check.of("a");
        for (int i = 1; i <= 16; i++) {
            Check.due("character " + i, i, x.pattern('a'));
        }
        Check.refused("a seventeenth", x, UNSUPPORTED, () -> x.pattern('a'));
        Check.refused("a seventeenth that is none", x, ARGUMENT, () -> x.pattern(256));
        Check.due("noPattern() of sixteen", 16, x.noPattern());
        Check.due("there is room again", 1, x.pattern('b'));
    }

    private static void patternIsTakenAway() {
        PieceText x = Check.of("abc");
        Check.due("noPattern() of none", 0, x.noPattern());
        Check.setPattern(x, "bc");
        Check.due("noPattern() of two", 2, x.noPattern());
        Check.due("told(3)", 0, x.told(3));
        Check.due("noPattern() again", 0, x.noPattern());
        Check.due("a new pattern", 1, x.pattern('c'));
        Check.due("has nothing of the old one", 2, x.find(0));
    }

    private static void findGoesOn() {
        PieceText x = Check.of("aabaaab");
        Check.setPattern(x, "aab");
        int[] due = {0, 4, 4, 4, 4, -1, -1, -1};
        for (int from = 0; from < due.length; from++) {
            Check.due("find(" + from + ") of aab", due[from], x.find(from));
        }
        Check.setPattern(x, "aa");
        Check.due("places may overlap", 3, x.find(1));
        Check.due("places may overlap", 4, x.find(4));
        Check.setPattern(x, "b");
        Check.due("at the end", 6, x.find(3));
        Check.setPattern(x, "ba");
        Check.due("not beyond the end", -1, x.find(3));
        Check.setPattern(x, "aabaaab");
        Check.due("the whole text", 0, x.find(0));
        Check.due("the whole text, not further on", -1, x.find(1));
        Check.setPattern(x, "aabaaabb");
        Check.due("longer than the text", -1, x.find(0));
        x.undo();
        Check.setPattern(x, "ab");
        Check.due("nothing of what is undone", -1, x.find(2));
    }

    private static void findOfNoCharacters() {
        PieceText x = Check.of("abc");
        for (int from = 0; from <= 3; from++) {
            Check.due("find(" + from + ") of nothing", from, x.find(from));
        }
        Check.due("find(0) of nothing in nothing", 0, new PieceText().find(0));
    }

    private static void findRefuses() {
        PieceText x = Check.of("abc");
        Check.refused("find(-1)", x, INDEX, () -> x.find(-1));
        Check.refused("find(4)", x, INDEX, () -> x.find(4));
        Check.setPattern(x, "c");
        Check.refused("find(-1) of c", x, INDEX, () -> x.find(-1));
        Check.refused("find(4) of c", x, INDEX, () -> x.find(4));
        Check.refused("find(MAX) of c", x, INDEX, () -> x.find(Integer.MAX_VALUE));
        Check.due("find(3) of c", -1, x.find(3));
    }

    private static void findOfSixteen() {
        PieceText x = Check.full('x');
        Check.setPattern(x, "xxxxxxxxxxxxxxxx");
        Check.due("sixteen at the end of 240", 224, x.find(224));
        Check.due("fifteen are too few", -1, x.find(225));
        Check.due("behind the last of 240", -1, x.find(240));
        Check.due("no place", "throws.IndexOutOfBoundsException", Check.answer(() -> x.find(241)));
        Check.due("replace() of sixteen", 15, x.replace('y'));
        Check.due("length behind it", 15, x.told(0));
    }

    private static void replaceIs(String text, String pattern, char c, int times, String want) {
        String what = "replace of " + pattern + " in " + text;
        PieceText x = Check.of(text);
        Check.setPattern(x, pattern);
        Check.due(what, times, x.replace(c));
        Check.due("text behind " + what, want, Check.text(x));
        Check.due("actions behind " + what, text.length() + 1, x.told(1));
        Check.due("pattern behind " + what, pattern.length(), x.told(3));
        Check.due("undo() of " + what, text.length(), x.undo());
        Check.due("text undone behind " + what, text, Check.text(x));
    }

    private static void replaceGoesFromTheLeft() {
        replaceIs("abcabc", "bc", 'x', 2, "axax");
        replaceIs("aaaaa", "aa", 'b', 2, "bba");
        replaceIs("aaaaa", "aa", 'a', 2, "aaa");
        replaceIs("aab", "ab", 'a', 1, "aa");
        replaceIs("abb", "ab", 'a', 1, "ab");
        replaceIs("ababa", "aba", 'x', 1, "xba");
        replaceIs("aaab", "aab", 'x', 1, "ax");
        replaceIs("abc", "abc", 'x', 1, "x");
        replaceIs("abc", "abcd", 'x', 0, "abc");
        replaceIs("abc", "q", 'x', 0, "abc");
        replaceIs("abc", "b", 'b', 1, "abc");
        replaceIs("abc", "c", '\0', 1, "ab\0");
        replaceIs("abc", "c", '\u00ff', 1, "ab\u00ff");
        replaceIs("", "c", 'x', 0, "");
    }

    private static void replaceRefuses() {
        PieceText x = Check.of("abc");
        x.undo();
        Check.refused("replace without a pattern", x, STATE, () -> x.replace('x'));
        Check.refused("the character is told first", x, ARGUMENT, () -> x.replace(256));
        x.pattern('a');
        Check.refused("replace(-1)", x, ARGUMENT, () -> x.replace(-1));
        Check.refused("replace(256)", x, ARGUMENT, () -> x.replace(256));
        x.noPattern();
        Check.refused("replace without a pattern again", x, STATE, () -> x.replace('x'));
    }

    private static void replaceInAFullText() {
        PieceText x = Check.full('x');
        x.pattern('x');
        Check.due("all of 240", 240, x.replace('y'));
        Check.due("counts behind it", List.of(240, 10, 0, 1, 0, 1), Check.counts(x));
        Check.due("none of 240", 0, x.replace('y'));
        x.pattern('x');
        Check.due("undo() of none", 240, x.undo());
        Check.due("undo() of all", 240, x.undo());
        Check.due("by twos", 120, x.replace('z'));
        Check.due("by twos behind it", 120, x.told(0));
    }
}
