import java.util.List;

/** The pattern, and promises 8 to 11: pattern, noPattern, find, replace. */
final class PatternTest {
    private static final Class<IndexOutOfBoundsException> INDEX = IndexOutOfBoundsException.class;
    private static final Class<IllegalArgumentException> ARGUMENT = IllegalArgumentException.class;
    private static final Class<IllegalStateException> STATE = IllegalStateException.class;
    private static final Class<UnsupportedOperationException> MORE = UnsupportedOperationException.class;
    private static final int MAX = Integer.MAX_VALUE;
    private static final int MIN = Integer.MIN_VALUE;
    private static final int[] NO_CHARACTERS = {-1, 256, 257, -256, 511, 512, 65536, MAX, MIN};

    public static void main(String[] args) {
        Check.sentence("CHARACTERS, 0 .. 255 (of the pattern)", PatternTest::charactersOfThePattern);
        Check.sentence("CHARACTERS, 0 .. 255 (replace)", PatternTest::charactersToReplaceBy);
        Check.sentence("The PATTERN has 16 characters at most", PatternTest::sixteenAtMost);
        Check.sentence("It OCCURS at a place if the text has it from there on", PatternTest::occurs);
        Check.sentence("It OCCURS at a place (at the end of the text)", PatternTest::occursAtTheEnd);
        Check.sentence("It OCCURS at a place (in a full text)", PatternTest::occursInAFullText);
        Check.sentence("A character comes behind the pattern: how many it has", PatternTest::patternGrows);
        Check.sentence("The pattern has none any more: how many it had", PatternTest::noPatternTakesAll);
        Check.sentence("The first place, not before a given one, where the pattern occurs", PatternTest::findGoesOn);
        Check.sentence("one without characters: everywhere, behind the last, too", PatternTest::nothingIsEverywhere);
        Check.sentence("NONE (where the pattern does not occur)", PatternTest::findAnswersNone);
        Check.sentence("IndexOutOfBounds: the place is not in the text, nor behind its last",
            PatternTest::findFromNoPlace);
        Check.sentence("REPLACING goes from the left", PatternTest::replaceFromTheLeft);
        Check.sentence("at the first place where it occurs it becomes one character", PatternTest::replaceByOne);
        Check.sentence("then on behind that", PatternTest::replaceGoesOnBehind);
        Check.sentence("for what is left of the text as it was", PatternTest::replaceInTheTextAsItWas);
        Check.sentence("REPLACING by a character: at how many places", PatternTest::replaceInAFullText);
        Check.sentence("REPLACING by a character: at how many places (at none)", PatternTest::replaceAtNone);
        Check.sentence("IllegalState: the pattern has no characters", PatternTest::replaceOfNothing);
        Check.end("PatternTest");
    }

    private static void charactersOfThePattern() {
        for (int c = 0; c <= 255; c++) {
            PieceText x = new PieceText();
            x.insert(0, 255 - c);
            x.insert(1, c);
            Check.due("pattern(" + c + ")", 1, x.pattern(c));
            Check.due("found", 1, x.find(0));
        }
        for (int c : NO_CHARACTERS) {
            Check.refused("pattern(" + c + ")", ARGUMENT, Given::some, x -> x.pattern(c));
        }
    }

    private static void charactersToReplaceBy() {
        for (int c = 0; c <= 255; c++) {
            PieceText x = Given.of("ab");
            x.pattern('b');
            Check.due("replace(" + c + ")", 1, x.replace(c));
            Check.due("at(1)", c, x.at(1));
            Check.due("at(0)", (int) 'a', x.at(0));
        }
        for (int c : NO_CHARACTERS) {
            Check.refused("replace(" + c + ")", ARGUMENT, Given::some, x -> x.replace(c));
        }
    }

    private static void sixteenAtMost() {
        PieceText x = Given.of("abcdefghijklmnopq");
        for (int i = 1; i <= 16; i++) {
            Check.due("character " + i, i, x.pattern('a' + i));
        }
        Check.due("all sixteen are found", 1, x.find(0));
        Check.due("a seventeenth", "throws.UnsupportedOperationException", Check.answer(x, y -> y.pattern('r')));
        Check.due("sixteen behind it", 16, x.told(3));
        Check.due("they are found behind it", 1, x.find(0));
        Check.refused("a seventeenth to a full text's", MORE, Given::most, y -> y.pattern('x'));
        Check.due("sixteen are taken away", 16, x.noPattern());
        Check.due("there is room again", 1, x.pattern('b'));
    }

    private static void occurs() {
        PieceText x = Given.of("abcabd");
        Given.pattern(x, "abd");
        Check.due("not where it only begins", 3, x.find(0));
        Given.pattern(x, "cab");
        Check.due("in the middle", 2, x.find(0));
        Given.pattern(x, "bb");
        Check.due("not with a gap", -1, x.find(0));
        Given.pattern(x, "a");
        Check.due("at the first place", 0, x.find(0));
        Given.pattern(x, "abcabd");
        Check.due("as the whole text", 0, x.find(0));
        Given.pattern(x, "ba");
        Check.due("not backwards", -1, x.find(0));
    }

    private static void occursAtTheEnd() {
        PieceText x = Given.of("abcab");
        Given.pattern(x, "cab");
        Check.due("up to the end", 2, x.find(0));
        Given.pattern(x, "b");
        Check.due("at the last place", 4, x.find(2));
        Given.pattern(x, "abc");
        Check.due("not beyond the end", -1, x.find(1));
        Given.pattern(x, "abcabc");
        Check.due("not in a shorter text", -1, x.find(0));
        x.insert(5, 'c');
        Check.due("in a text as long", 0, x.find(0));
        x.undo();
        Check.due("not with what is undone", -1, x.find(0));
        x.delete(0, 5);
        Check.due("not in no text", -1, x.find(0));
    }

    private static void occursInAFullText() {
        PieceText x = Given.made(Given::most);
        Check.due("sixteen up to the 240th", 224, x.find(0));
        Check.due("from there on", 224, x.find(224));
        Check.due("not further on", -1, x.find(225));
        Given.pattern(x, "xxxxxxxxxxxxxxxx");
        Check.due("sixteen before the last", 223, x.find(223));
        Check.due("fifteen are too few", -1, x.find(224));
        Given.pattern(x, "y");
        Check.due("the 240th alone", 239, x.find(0));
        Check.due("behind it", -1, x.find(240));
    }

    private static void patternGrows() {
        PieceText x = Given.of("aab\0\u00ffab");
        Check.due("first", 1, x.pattern('b'));
        Check.due("place of it", 2, x.find(0));
        Check.due("second", 2, x.pattern(0));
        Check.due("third", 3, x.pattern(255));
        Check.due("place of three", 2, x.find(0));
        Check.due("told(3)", 3, x.told(3));
        Check.due("fourth", 4, x.pattern('b'));
        Check.due("no place of four", -1, x.find(0));
    }

    private static void noPatternTakesAll() {
        PieceText x = Given.of("abc");
        Check.due("of none", 0, x.noPattern());
        x.pattern('b');
        Check.due("of one", 1, x.noPattern());
        Given.pattern(x, "bc");
        Check.due("of two", 2, x.noPattern());
        Check.due("told(3)", 0, x.told(3));
        Check.due("of none any more", 0, x.noPattern());
        Check.due("found everywhere", 1, x.find(1));
        Check.due("a new one", 1, x.pattern('c'));
        Check.due("has nothing of the old one", 2, x.find(0));
        Check.due("all else stays", List.of(3, 3, 0, 1, 0, 3), Look.counts(x));
    }

    private static void findGoesOn() {
        PieceText x = Given.of("aabaaab");
        Given.pattern(x, "aab");
        int[] due = {0, 4, 4, 4, 4, -1, -1, -1};
        for (int from = 0; from < due.length; from++) {
            Check.due("find(" + from + ") of aab", due[from], x.find(from));
        }
        Given.pattern(x, "aa");
        int[] overlapping = {0, 3, 3, 3, 4, -1, -1, -1};
        for (int from = 0; from < overlapping.length; from++) {
            Check.due("find(" + from + ") of aa", overlapping[from], x.find(from));
        }
        Check.changesNothing("find()", Given::some, y -> y.find(1));
    }

    private static void nothingIsEverywhere() {
        PieceText x = Given.of("abc");
        for (int from = 0; from <= 3; from++) {
            Check.due("find(" + from + ")", from, x.find(from));
        }
        Check.due("find(0) in no text", 0, new PieceText().find(0));
        PieceText full = Given.made(Given::most);
        full.noPattern();
        Check.due("find(239) of 240", 239, full.find(239));
        Check.due("find(240) of 240", 240, full.find(240));
    }

    private static void findAnswersNone() {
        PieceText x = Given.of("abc");
        Given.pattern(x, "b");
        Check.due("the last place where it occurs", 1, x.find(1));
        Check.due("the place behind it", PieceText.NONE, x.find(2));
        Check.due("behind the last", PieceText.NONE, x.find(3));
        Given.pattern(x, "d");
        Check.due("what the text has not", PieceText.NONE, x.find(0));
        PieceText y = new PieceText();
        y.pattern('a');
        Check.due("in no text", PieceText.NONE, y.find(0));
    }

    private static void findFromNoPlace() {
        for (int from : new int[] {-1, 4, 5, MAX, MIN}) {
            Check.refused("find(" + from + ")", INDEX, Given::some, x -> x.find(from));
            Check.refused("find(" + from + ") of nothing", INDEX, x -> Given.put(x, "abc"), x -> x.find(from));
        }
        Check.due("find(3) is behind the last", -1, Given.made(Given::some).find(3));
        Check.refused("find(241) of 240", INDEX, Given::most, x -> x.find(241));
    }

    private static void replaceIs(String text, String pattern, char c, int times, String want) {
        String what = "replace of " + pattern + " by " + c + " in " + text;
        PieceText x = Given.of(text);
        Given.pattern(x, pattern);
        Check.due(what, times, x.replace(c));
        Check.due("text behind " + what, want, Look.text(x));
        Check.due("length behind " + what, want.length(), x.told(0));
        Check.due("actions behind " + what, Math.min(text.length() + 1, 12), x.told(1));
        Check.due("pattern behind " + what, pattern.length(), x.told(3));
        Check.due("undo() of " + what, text.length(), x.undo());
        Check.due("text undone behind " + what, text, Look.text(x));
    }

    private static void replaceFromTheLeft() {
        replaceIs("aaa", "aa", 'b', 1, "ba");
        replaceIs("ababa", "aba", 'x', 1, "xba");
        replaceIs("aabaabaa", "aabaa", 'x', 1, "xbaa");
        replaceIs("abcabc", "bc", 'x', 2, "axax");
    }

    private static void replaceByOne() {
        replaceIs("abc", "a", 'x', 1, "xbc");
        replaceIs("abc", "b", 'x', 1, "axc");
        replaceIs("abc", "c", 'x', 1, "abx");
        replaceIs("abc", "bc", 'x', 1, "ax");
        replaceIs("abc", "abc", 'x', 1, "x");
        replaceIs("aaab", "aab", 'x', 1, "ax");
        replaceIs("abcdefghijklmnop", "abcdefghijklmnop", 'x', 1, "x");
        replaceIs("abcdefghijklmnopq", "abcdefghijklmnop", 'x', 1, "xq");
        replaceIs("abcdefghijklmnopq", "bcdefghijklmnopq", 'x', 1, "ax");
    }

    private static void replaceGoesOnBehind() {
        replaceIs("aaaaa", "aa", 'b', 2, "bba");
        replaceIs("aaaa", "aa", 'b', 2, "bb");
        replaceIs("abab", "ab", 'x', 2, "xx");
        replaceIs("ababab", "bab", 'x', 1, "axab");
        replaceIs("aabaab", "aab", 'x', 2, "xx");
    }

    private static void replaceInTheTextAsItWas() {
        replaceIs("aaaaa", "aa", 'a', 2, "aaa");
        replaceIs("abb", "ab", 'a', 1, "ab");
        replaceIs("aab", "ab", 'b', 1, "ab");
        replaceIs("abbb", "ab", 'a', 1, "abb");
        replaceIs("aaab", "ab", 'b', 1, "aab");
        replaceIs("abc", "b", 'b', 1, "abc");
        replaceIs("aabcbc", "abc", 'a', 1, "aabc");
    }

    private static void replaceInAFullText() {
        PieceText x = Given.made(y -> Given.fill(y, 'x', 240));
        x.pattern('x');
        Check.due("all of 240", 240, x.replace('y'));
        Check.due("counts behind it", List.of(240, 10, 0, 1, 0, 1), Look.counts(x));
        Check.due("text behind it", "y".repeat(240), Look.text(x));
        x.undo();
        x.pattern('x');
        Check.due("by twos", 120, x.replace('z'));
        Check.due("length behind that", 120, x.told(0));
        PieceText sixteen = Given.made(y -> Given.fill(y, 'x', 240));
        Given.pattern(sixteen, "x".repeat(16));
        Check.due("by sixteens", 15, sixteen.replace('z'));
        Check.due("text behind them", "z".repeat(15), Look.text(sixteen));
        PieceText last = Given.made(Given::most);
        Check.due("the last sixteen", 1, last.replace('z'));
        Check.due("text behind these", "x".repeat(224) + "z", Look.text(last));
    }

    private static void replaceAtNone() {
        replaceIs("abc", "q", 'x', 0, "abc");
        replaceIs("abc", "abcd", 'x', 0, "abc");
        replaceIs("abcab", "abb", 'x', 0, "abcab");
        replaceIs("abcab", "bc\0", 'x', 0, "abcab");
        replaceIs("abcab", "abc\0", 'x', 0, "abcab");
        replaceIs("cab", "abc", 'x', 0, "cab");
        replaceIs("", "c", 'x', 0, "");
    }

    private static void replaceOfNothing() {
        Check.refused("at first", STATE, x -> { }, x -> x.replace('x'));
        Check.refused("in a text", STATE, x -> Given.put(x, "abc"), x -> x.replace('x'));
        Check.refused("behind noPattern()", STATE, Given.then(Given::some, x -> x.noPattern()), x -> x.replace('x'));
        Check.refused("in a full text", STATE, Given.then(Given::most, x -> x.noPattern()), x -> x.replace('x'));
    }
}
