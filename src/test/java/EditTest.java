import java.util.List;

/** What the text may have, a new object, and promises 2 to 5: insert, delete, copy, at. */
final class EditTest {
    private static final Class<IndexOutOfBoundsException> INDEX = IndexOutOfBoundsException.class;
    private static final Class<IllegalArgumentException> ARGUMENT = IllegalArgumentException.class;
    private static final Class<UnsupportedOperationException> MORE = UnsupportedOperationException.class;
    private static final int MAX = Integer.MAX_VALUE;
    private static final int MIN = Integer.MIN_VALUE;
    private static final Check.Steps ABC = x -> Given.put(x, "abc");

    public static void main(String[] args) {
        Check.sentence("An object is used for at most 512 calls after it has been made",
            EditTest::fiveHundredTwelveCalls);
        Check.sentence("The TEXT has CHARACTERS, 0 .. 255", EditTest::charactersOfTheText);
        Check.sentence("240 at most (insert)", EditTest::insertUpTo240);
        Check.sentence("240 at most (copy)", EditTest::copyUpTo240);
        Check.sentence("at first none", EditTest::atFirstNone);
        Check.sentence("makes an object in the state that the terms give", EditTest::objectsAreApart);
        Check.sentence("A character is put in before the one at a place", EditTest::insertBefore);
        Check.sentence("or behind the last: the length", EditTest::insertBehindTheLast);
        Check.sentence("there is no such place (insert)", EditTest::insertAtNoPlace);
        Check.sentence("n characters are taken out from a place on: the length", EditTest::deleteTakesOut);
        Check.sentence("there is no such place (delete)", EditTest::deleteAtNoPlace);
        Check.sentence("IllegalArgument: n is below 0 (delete)", EditTest::deleteBelowNone);
        Check.sentence("or there are not so many from there on (delete)", EditTest::deleteTooMany);
        Check.sentence("The place may be behind the last, for none (delete)", EditTest::deleteNoneBehindTheLast);
        Check.sentence("come to stand before another place as well (told as the text is)", EditTest::copyPutsIn);
        Check.sentence("come to stand before another place (behind the last)", EditTest::copyBehindTheLast);
        Check.sentence("IllegalArgument: as with delete() (copy, n is below 0)", EditTest::copyBelowNone);
        Check.sentence("IllegalArgument: as with delete() (copy, not so many from there on)", EditTest::copyTooMany);
        Check.sentence("as with delete() (copy, none from behind the last)", EditTest::copyNoneBehindTheLast);
        Check.sentence("IndexOutOfBounds: either place (the first)", EditTest::copyFromNoPlace);
        Check.sentence("IndexOutOfBounds: either place (the second)", EditTest::copyToNoPlace);
        Check.sentence("A character of the text", EditTest::atTellsACharacter);
        Check.sentence("there is no such place (at)", EditTest::atNoPlace);
        Check.end("EditTest");
    }

    /** Each call puts in or copies as much as there may be, so that what is used up by calls runs short here. */
    private static void fiveHundredTwelveCalls() {
        PieceText x = Given.made(y -> Given.fill(y, 'x', 120));
        for (int calls = 9; calls < 508; calls += 2) {
            Check.due("call " + calls + ", copy()", 240, x.copy(0, 120, 60));
            Check.due("call " + (calls + 1) + ", delete()", 120, x.delete(calls % 100, 120));
        }
        Check.due("call 509, insert()", 121, x.insert(120, 'y'));
        Check.due("call 510, undo()", 120, x.undo());
        Check.due("call 511, redo()", 121, x.redo());
        Check.due("call 512, at()", (int) 'y', x.at(120));
    }

    private static void charactersOfTheText() {
        for (int c = 0; c <= 255; c++) {
            PieceText x = new PieceText();
            Check.due("insert(0, " + c + ")", 1, x.insert(0, c));
            Check.due("at(0) of " + c, c, x.at(0));
        }
        for (int c : new int[] {-1, 256, 257, -256, 511, 512, 65536, MAX, MIN}) {
            Check.refused("insert(3, " + c + ")", ARGUMENT, Given::some, x -> x.insert(3, c));
        }
    }

    private static void insertUpTo240() {
        PieceText x = new PieceText();
        for (int length = 1; length <= 240; length++) {
            Check.due("character " + length, length, x.insert(length / 2, length % 256));
        }
        for (int place : new int[] {0, 120, 240}) {
            Check.refused("the 241st, at " + place, MORE, Given::most, y -> y.insert(place, 'z'));
        }
        PieceText full = Given.made(Given::most);
        full.delete(17, 1);
        Check.due("the 240th again", 240, full.insert(239, 'z'));
        Check.due("it is the last", (int) 'z', full.at(239));
        Check.due("one more", "throws.UnsupportedOperationException", Check.answer(full, y -> y.insert(0, 'z')));
        Check.due("one less by undo()", 239, full.undo());
        Check.due("the 240th before all", 240, full.insert(0, 'z'));
    }

    private static void copyUpTo240() {
        Check.Steps room = x -> {
            Given.fill(x, 'x', 140);
            x.delete(0, 3);
            x.undo();
        };
        Check.due("as many as there may be", 240, Given.made(room).copy(40, 100, 140));
        Check.refused("one more", MORE, room, x -> x.copy(39, 101, 140));
        Check.refused("all of them", MORE, room, x -> x.copy(0, 140, 0));
        Check.due("none into a full text", 240, Given.made(Given::most).copy(0, 0, 0));
        Check.refused("one into a full text", MORE, Given::most, x -> x.copy(239, 1, 240));
        Check.refused("240 into a full text", MORE, Given::most, x -> x.copy(0, 240, 0));
    }

    private static void atFirstNone() {
        Check.due("NONE", -1, PieceText.NONE);
        Check.due("counts", List.of(0, 0, 0, 0, 0, 0), Look.counts(new PieceText()));
        Check.refused("at(0)", INDEX, x -> { }, x -> x.at(0));
        Check.refused("word(0)", INDEX, x -> { }, x -> x.word(0));
        Check.refused("poke(0, 0)", INDEX, x -> { }, x -> x.poke(0, 0));
        Check.refused("delete(0, 1)", ARGUMENT, x -> { }, x -> x.delete(0, 1));
        Check.refused("copy(0, 1, 0)", ARGUMENT, x -> { }, x -> x.copy(0, 1, 0));
        Check.refused("insert(1, 65)", INDEX, x -> { }, x -> x.insert(1, 65));
        Check.refused("find(1)", INDEX, x -> { }, x -> x.find(1));
        Check.refused("undo()", IllegalStateException.class, x -> { }, x -> x.undo());
        Check.refused("redo()", IllegalStateException.class, x -> { }, x -> x.redo());
        Check.refused("replace(1)", IllegalStateException.class, x -> { }, x -> x.replace(1));
        Check.due("find(0)", 0, new PieceText().find(0));
        Check.due("noPattern()", 0, new PieceText().noPattern());
        Check.due("snapshot()", 0, new PieceText().snapshot());
        Check.due("restore()", 0, new PieceText().restore());
        Check.due("delete(0, 0)", 0, new PieceText().delete(0, 0));
        Check.due("copy(0, 0, 0)", 0, new PieceText().copy(0, 0, 0));
    }

    private static void objectsAreApart() {
        PieceText x = Given.made(Given::some);
        PieceText y = new PieceText();
        Check.due("a new one beside another", List.of(0, 0, 0, 0, 0, 0), Look.counts(y));
        Given.most(y);
        Check.due("the other", List.of(3, 3, 2, 2, 4, 3), Look.counts(x));
        Check.due("its text", "abc", Look.text(x));
        y.clear();
        Check.due("the other, behind clear() of this", List.of(3, 3, 2, 2, 4, 3), Look.counts(x));
    }

    private static void insertBefore() {
        PieceText x = Given.of("bd");
        Check.due("before the first", 3, x.insert(0, 'a'));
        Check.due("between", 4, x.insert(2, 'c'));
        Check.due("before the last", 5, x.insert(3, 'C'));
        Check.due("text", "abcCd", Look.text(x));
    }

    private static void insertBehindTheLast() {
        PieceText x = new PieceText();
        Check.due("of none", 1, x.insert(0, 'a'));
        Check.due("of one", 2, x.insert(1, 'b'));
        Check.due("of two", 3, x.insert(2, 'c'));
        Check.due("text", "abc", Look.text(x));
        x.undo();
        Check.due("of what is left by undo()", 3, x.insert(2, 'd'));
        Check.due("text behind that", "abd", Look.text(x));
    }

    private static void insertAtNoPlace() {
        for (int place : new int[] {-1, 4, 5, MAX, MIN}) {
            Check.refused("insert(" + place + ", 65)", INDEX, Given::some, x -> x.insert(place, 65));
        }
    }

    private static void deleteIs(int place, int n, String want) {
        PieceText x = Given.of("abcdefg");
        Check.due("delete(" + place + ", " + n + ")", want.length(), x.delete(place, n));
        Check.due("text behind it", want, Look.text(x));
        Check.due("actions behind it", 8, x.told(1));
    }

    private static void deleteTakesOut() {
        deleteIs(0, 1, "bcdefg");
        deleteIs(6, 1, "abcdef");
        deleteIs(2, 3, "abfg");
        deleteIs(3, 4, "abc");
        deleteIs(0, 6, "g");
        deleteIs(0, 7, "");
        deleteIs(0, 0, "abcdefg");
        deleteIs(3, 0, "abcdefg");
        Check.due("all of 240", 0, Given.made(Given::most).delete(0, 240));
    }

    private static void deleteAtNoPlace() {
        for (int place : new int[] {-1, 4, 5, MAX, MIN}) {
            Check.refused("delete(" + place + ", 0)", INDEX, Given::some, x -> x.delete(place, 0));
        }
        Check.refused("delete(-1, 1)", INDEX, Given::some, x -> x.delete(-1, 1));
        Check.refused("delete(241, 0) of 240", INDEX, Given::most, x -> x.delete(241, 0));
    }

    private static void deleteBelowNone() {
        for (int n : new int[] {-1, -2, -3, MIN}) {
            Check.refused("delete(2, " + n + ")", ARGUMENT, Given::some, x -> x.delete(2, n));
        }
        Check.refused("delete(3, -1)", ARGUMENT, Given::some, x -> x.delete(3, -1));
    }

    private static void deleteTooMany() {
        for (int place = 0; place <= 3; place++) {
            int from = place;
            Check.due("delete(" + from + ", all)", from, Given.made(ABC).delete(from, 3 - from));
            Check.refused("delete(" + from + ", one more)", ARGUMENT, Given::some, x -> x.delete(from, 4 - from));
            Check.refused("delete(" + from + ", MAX)", ARGUMENT, Given::some, x -> x.delete(from, MAX));
        }
        Check.refused("delete(1, 240) of 240", ARGUMENT, Given::most, x -> x.delete(1, 240));
        Check.refused("delete(0, 241) of 240", ARGUMENT, Given::most, x -> x.delete(0, 241));
    }

    private static void deleteNoneBehindTheLast() {
        PieceText x = Given.made(ABC);
        Check.due("delete(3, 0)", 3, x.delete(3, 0));
        Check.due("counts behind it", List.of(3, 4, 0, 0, 0, 3), Look.counts(x));
        Check.due("text behind it", "abc", Look.text(x));
        Check.refused("delete(3, 1)", ARGUMENT, Given::some, y -> y.delete(3, 1));
        Check.due("of 240", 240, Given.made(Given::most).delete(240, 0));
        Check.due("of none", 0, new PieceText().delete(0, 0));
    }

    private static void copyIs(String text, int place, int n, int to, String want) {
        String what = "copy(" + place + ", " + n + ", " + to + ") of " + text;
        PieceText x = Given.of(text);
        Check.due(what, want.length(), x.copy(place, n, to));
        Check.due("text behind " + what, want, Look.text(x));
        Check.due("actions behind " + what, text.length() + 1, x.told(1));
    }

    private static void copyPutsIn() {
        copyIs("abcde", 0, 2, 4, "abcdabe");
        copyIs("abcde", 3, 2, 1, "adebcde");
        copyIs("abcde", 1, 3, 2, "abbcdcde");
        copyIs("abcde", 1, 3, 3, "abcbcdde");
        copyIs("abcde", 1, 3, 1, "abcdbcde");
        copyIs("abcde", 1, 3, 4, "abcdbcde");
        copyIs("abcde", 1, 2, 0, "bcabcde");
        copyIs("abcde", 0, 5, 0, "abcdeabcde");
        copyIs("abcde", 0, 5, 3, "abcabcdede");
        copyIs("abcde", 4, 1, 0, "eabcde");
        copyIs("abcde", 2, 0, 1, "abcde");
    }

    private static void copyBehindTheLast() {
        copyIs("abcde", 0, 1, 5, "abcdea");
        copyIs("abcde", 4, 1, 5, "abcdee");
        copyIs("abcde", 0, 5, 5, "abcdeabcde");
        copyIs("abcde", 0, 0, 5, "abcde");
        copyIs("a", 0, 1, 1, "aa");
        Check.refused("copy(0, 1, 4) of three", INDEX, Given::some, x -> x.copy(0, 1, 4));
    }

    private static void copyBelowNone() {
        for (int n : new int[] {-1, -2, -3, MIN}) {
            Check.refused("copy(2, " + n + ", 0)", ARGUMENT, Given::some, x -> x.copy(2, n, 0));
        }
        Check.refused("copy(3, -1, 3)", ARGUMENT, Given::some, x -> x.copy(3, -1, 3));
    }

    private static void copyTooMany() {
        for (int place = 0; place <= 3; place++) {
            int from = place;
            Check.due("copy(" + from + ", all, 0)", 6 - from, Given.made(ABC).copy(from, 3 - from, 0));
            Check.refused("copy(" + from + ", one more, 0)", ARGUMENT, Given::some, x -> x.copy(from, 4 - from, 0));
            Check.refused("copy(" + from + ", MAX, 3)", ARGUMENT, Given::some, x -> x.copy(from, MAX, 3));
        }
    }

    private static void copyNoneBehindTheLast() {
        copyIs("abcde", 5, 0, 5, "abcde");
        copyIs("abcde", 5, 0, 0, "abcde");
        copyIs("", 0, 0, 0, "");
        Check.refused("copy(3, 1, 0)", ARGUMENT, Given::some, x -> x.copy(3, 1, 0));
        Check.due("of 240", 240, Given.made(Given::most).copy(240, 0, 240));
    }

    private static void copyFromNoPlace() {
        for (int place : new int[] {-1, 4, 5, MAX, MIN}) {
            Check.refused("copy(" + place + ", 0, 0)", INDEX, Given::some, x -> x.copy(place, 0, 0));
        }
        Check.refused("copy(-1, 1, 0)", INDEX, Given::some, x -> x.copy(-1, 1, 0));
    }

    private static void copyToNoPlace() {
        for (int to : new int[] {-1, 4, 5, MAX, MIN}) {
            Check.refused("copy(0, 1, " + to + ")", INDEX, Given::some, x -> x.copy(0, 1, to));
            Check.refused("copy(0, 0, " + to + ")", INDEX, Given::some, x -> x.copy(0, 0, to));
        }
    }

    private static void atTellsACharacter() {
        PieceText x = Given.of("a\u00ff\0b");
        Check.due("the first", (int) 'a', x.at(0));
        Check.due("the second", 255, x.at(1));
        Check.due("the third", 0, x.at(2));
        Check.due("the last", (int) 'b', x.at(3));
        PieceText full = Given.made(Given::most);
        Check.due("the last but one of 240", (int) 'x', full.at(238));
        Check.due("the last of 240", (int) 'y', full.at(239));
    }

    private static void atNoPlace() {
        for (int place : new int[] {-1, 3, 4, MAX, MIN}) {
            Check.refused("at(" + place + ")", INDEX, Given::some, x -> x.at(place));
        }
        Check.refused("at(240) of 240", INDEX, Given::most, x -> x.at(240));
    }
}
