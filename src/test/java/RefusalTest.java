/** The exceptions: which one comes first where a call names several, and that nothing is changed behind any. */
final class RefusalTest {
    private static final Class<IndexOutOfBoundsException> INDEX = IndexOutOfBoundsException.class;
    private static final Class<IllegalArgumentException> ARGUMENT = IllegalArgumentException.class;
    private static final Class<IllegalStateException> STATE = IllegalStateException.class;
    private static final Class<UnsupportedOperationException> MORE = UnsupportedOperationException.class;
    private static final int MAX = Integer.MAX_VALUE;
    private static final int MIN = Integer.MIN_VALUE;

    public static void main(String[] args) {
        Check.sentence("Of several that a call names, the first one (insert)", RefusalTest::firstOfInsert);
        Check.sentence("Of several that a call names, the first one (delete)", RefusalTest::firstOfDelete);
        Check.sentence("Of several that a call names, the first one (copy)", RefusalTest::firstOfCopy);
        Check.sentence("Of several that a call names, the first one (pattern)", RefusalTest::firstOfPattern);
        Check.sentence("Of several that a call names, the first one (replace)", RefusalTest::firstOfReplace);
        Check.sentence("A call that throws changes nothing", RefusalTest::changesNothing);
        Check.sentence("A call that throws changes nothing (many of them)", RefusalTest::manyChangeNothing);
        Check.end("RefusalTest");
    }

    private static void insert(Class<? extends RuntimeException> due, Check.Steps state, int place, int c) {
        Check.refused("insert(" + place + ", " + c + ")", due, state, x -> x.insert(place, c));
    }

    private static void firstOfInsert() {
        insert(INDEX, Given::some, 4, 256);
        insert(INDEX, Given::some, -1, -1);
        insert(INDEX, Given::some, MIN, MAX);
        insert(INDEX, Given::most, 241, 'a');
        insert(INDEX, Given::most, -1, 'a');
        insert(INDEX, Given::most, 241, 256);
        insert(INDEX, Given::most, -1, -1);
        insert(ARGUMENT, Given::most, 240, 256);
        insert(ARGUMENT, Given::most, 0, -1);
        insert(MORE, Given::most, 240, 255);
        insert(MORE, Given::most, 0, 0);
    }

    private static void delete(Class<? extends RuntimeException> due, Check.Steps state, int place, int n) {
        Check.refused("delete(" + place + ", " + n + ")", due, state, x -> x.delete(place, n));
    }

    private static void firstOfDelete() {
        delete(INDEX, Given::some, 4, -1);
        delete(INDEX, Given::some, 4, 1);
        delete(INDEX, Given::some, -1, -1);
        delete(INDEX, Given::some, -1, 5);
        delete(INDEX, Given::some, MAX, MAX);
        delete(INDEX, Given::some, MIN, MIN);
        delete(INDEX, Given::most, 241, -1);
        delete(ARGUMENT, Given::some, 3, -1);
        delete(ARGUMENT, Given::some, 0, 4);
    }

    private static void copy(Class<? extends RuntimeException> due, Check.Steps state, int place, int n, int to) {
        Check.refused("copy(" + place + ", " + n + ", " + to + ")", due, state, x -> x.copy(place, n, to));
    }

    /** A text of 140, so that there may be a hundred more, and more than these can be copied. */
    private static void room(PieceText x) {
        Given.fill(x, 'x', 140);
        x.pattern('x');
        x.delete(0, 3);
        x.undo();
        x.snapshot();
    }

    private static void firstOfCopy() {
        copy(INDEX, Given::some, 4, -1, 0);
        copy(INDEX, Given::some, 0, -1, 4);
        copy(INDEX, Given::some, 0, 4, -1);
        copy(INDEX, Given::some, -1, 4, 0);
        copy(INDEX, Given::some, -1, 0, -1);
        copy(INDEX, Given::some, MAX, MAX, MAX);
        copy(INDEX, Given::some, MIN, MIN, MIN);
        copy(INDEX, RefusalTest::room, 0, 101, 141);
        copy(INDEX, RefusalTest::room, 0, 101, -1);
        copy(INDEX, RefusalTest::room, 141, 101, 0);
        copy(INDEX, RefusalTest::room, 0, 141, 141);
        copy(INDEX, RefusalTest::room, -1, 141, 0);
        copy(ARGUMENT, RefusalTest::room, 0, 141, 140);
        copy(ARGUMENT, RefusalTest::room, 40, 101, 0);
        copy(ARGUMENT, RefusalTest::room, 140, 101, 0);
        copy(ARGUMENT, RefusalTest::room, 0, MAX, 0);
        copy(ARGUMENT, Given::most, 240, 1, 0);
        copy(ARGUMENT, Given::most, 0, -1, 0);
        copy(MORE, RefusalTest::room, 39, 101, 0);
        copy(MORE, Given::most, 239, 1, 240);
    }

    private static void firstOfPattern() {
        Check.refused("pattern(256) as a seventeenth", ARGUMENT, Given::most, x -> x.pattern(256));
        Check.refused("pattern(-1) as a seventeenth", ARGUMENT, Given::most, x -> x.pattern(-1));
        Check.refused("pattern(0) as a seventeenth", MORE, Given::most, x -> x.pattern(0));
        Check.refused("pattern(255) as a seventeenth", MORE, Given::most, x -> x.pattern(255));
    }

    private static void firstOfReplace() {
        Check.Steps noPattern = Given.then(Given::some, x -> x.noPattern());
        Check.refused("replace(256) without a pattern", ARGUMENT, noPattern, x -> x.replace(256));
        Check.refused("replace(-1) without a pattern", ARGUMENT, noPattern, x -> x.replace(-1));
        Check.refused("replace(255) without a pattern", STATE, noPattern, x -> x.replace(255));
        Check.refused("replace(0) without a pattern", STATE, noPattern, x -> x.replace(0));
        Check.refused("replace(256) at first", ARGUMENT, x -> { }, x -> x.replace(256));
    }

    /** Each exception that a call of the face names, once where there is some of everything and once at the limits. */
    private static void changesNothing() {
        for (Check.Steps state : new Check.Steps[] {Given::some, Given::most}) {
            insert(INDEX, state, 241, 'a');
            insert(ARGUMENT, state, 0, 256);
            delete(INDEX, state, 241, 0);
            delete(ARGUMENT, state, 0, 241);
            copy(INDEX, state, 0, 0, 241);
            copy(ARGUMENT, state, 0, 241, 0);
            Check.refused("at(240)", INDEX, state, x -> x.at(240));
            Check.refused("pattern(256)", ARGUMENT, state, x -> x.pattern(256));
            Check.refused("find(241)", INDEX, state, x -> x.find(241));
            Check.refused("replace(256)", ARGUMENT, state, x -> x.replace(256));
            Check.refused("replace() of nothing", STATE, Given.then(state, x -> x.noPattern()), x -> x.replace(1));
            Check.refused("word(240)", INDEX, state, x -> x.word(240));
            Check.refused("poke(240, 97)", INDEX, state, x -> x.poke(240, 97));
            Check.refused("undo() of none", STATE, undone(state), x -> x.undo());
            Check.refused("redo() of none", STATE, doneAgain(state), x -> x.redo());
        }
        insert(MORE, Given::most, 0, 'a');
        copy(MORE, Given::most, 0, 1, 0);
        Check.refused("a seventeenth", MORE, Given::most, x -> x.pattern('a'));
    }

    private static Check.Steps undone(Check.Steps state) {
        return x -> {
            state.on(x);
            Given.undo(x, x.told(1));
        };
    }

    private static Check.Steps doneAgain(Check.Steps state) {
        return x -> {
            state.on(x);
            Given.redo(x, x.told(2));
        };
    }

    private static int refusedCalls(PieceText x) {
        for (int i = 0; i < 10; i++) {
            Check.answer(x, y -> y.insert(-1, 'a'));
            Check.answer(x, y -> y.delete(1, 240));
            Check.answer(x, y -> y.copy(1, 240, 0));
            Check.answer(x, y -> y.pattern(-1));
            Check.answer(x, y -> y.find(-1));
            Check.answer(x, y -> y.replace(-1));
            Check.answer(x, y -> y.word(-1));
            Check.answer(x, y -> y.poke(-1, 0));
        }
        return 0;
    }

    private static void manyChangeNothing() {
        Check.changesNothing("eighty of them", Given::some, RefusalTest::refusedCalls);
        Check.changesNothing("eighty of them at the limits", Given::most, RefusalTest::refusedCalls);
    }
}
