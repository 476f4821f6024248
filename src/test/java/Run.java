import java.util.ArrayList;
import java.util.List;

/**
 * A run of calls on one new object, for one sentence of the document. It never makes more calls on an object than
 * the document promises answers for: where there is more to ask, the run is made again on another new object.
 */
final class Run {
    static final String INDEX = "throws.IndexOutOfBoundsException";
    static final String ARGUMENT = "throws.IllegalArgumentException";
    static final String STATE = "throws.IllegalStateException";
    static final String ELEMENT = "throws.NoSuchElementException";
    static final int FULL = -4;
    private static final int MOST_CALLS = 512;
    private static final int CALLS_TO_LOOK = 65;

    private final Expect expect;
    private final String sentence;
    private final List<CallText> made = new ArrayList<>();
    private final GroupCursors x = new GroupCursors();
    private int added = 0;

    Run(Expect expect, String sentence) {
        this.expect = expect;
        this.sentence = sentence;
    }

    int calls() {
        return made.size();
    }

    private String answer(String call) {
        if (made.size() >= MOST_CALLS) {
            throw new AssertionError(sentence + ": more calls than the document promises answers for");
        }
        CallText text = new CallText(call);
        made.add(text);
        return text.on(x);
    }

    /** The call answers so. */
    Run due(String call, String want) {
        compare(call, answer(call), want);
        return this;
    }

    Run due(String call, long want) {
        return due(call, String.valueOf(want));
    }

    Run due(String call, boolean want) {
        return due(call, String.valueOf(want));
    }

    /** Calls that are not what the sentence is about; they must not throw. */
    Run make(String... calls) {
        for (String call : calls) {
            String got = answer(call);
            if (got.startsWith("throws.")) {
                compare(call, got, "no exception");
            }
        }
        return this;
    }

    /** The call answers so, and changes nothing: whatever is asked or done then answers as it would have without it. */
    Run same(String call, String want) {
        List<CallText> before = new ArrayList<>(made);
        due(call, want);
        int room = MOST_CALLS - made.size();
        if (room < CALLS_TO_LOOK) {
            throw new AssertionError(sentence + ": no calls are left to look at what " + call + " changes");
        }
        Looks looks = new Looks(again(before));
        List<String> questions = looks.questions();
        for (int from = 0; from < questions.size(); from += room) {
            compareRows(call, before, questions.subList(from, Math.min(from + room, questions.size())));
        }
        for (List<String> row : looks.waysOn()) {
            compareRows(call, before, row.subList(0, Math.min(room, row.size())));
        }
        return this;
    }

    Run same(String call, long want) {
        return same(call, String.valueOf(want));
    }

    Run same(String call, boolean want) {
        return same(call, String.valueOf(want));
    }

    private static GroupCursors again(List<CallText> calls) {
        GroupCursors other = new GroupCursors();
        for (CallText call : calls) {
            call.on(other);
        }
        return other;
    }

    private void compareRows(String call, List<CallText> before, List<String> row) {
        GroupCursors without = again(before);
        GroupCursors with = again(made);
        for (String question : row) {
            CallText text = new CallText(question);
            String want = text.on(without);
            compare(question + " after " + call, text.on(with), want);
        }
    }

    private void compare(String call, String got, String want) {
        expect.dueText(sentence + ": " + call, got, want);
    }

    /** Objects with the groups 0, 1, 2 in turn, and with the sorts in the order in which they come. */
    Run adds(int many) {
        for (int i = 0; i < many; i++) {
            make("add(" + added % 3 + ", " + (31 * added - 7) + ", " + added + ")");
            added++;
        }
        return this;
    }

    /** A SEGMENT for each of the sizes. */
    Run segments(int... sizes) {
        for (int size : sizes) {
            adds(size).make("commit()");
        }
        return this;
    }

    /**
     * Objects 0 to 5: number 3 was DROPPED while NEW, 4 is DROPPED in segment 1 (KEPT), 5 is NEW. View 0 is OPEN, 1 HELD,
     * 2 ENDED; 0 and 1 have the objects 0, 1, 2, 4 in this order by kind 0, and two groups: 10 (0, 2), 20 (1, 4).
     * Reader 0 is a cursor of view 1 that has given two of four, 1 an iterator of view 0 that has given one of four,
     * 2 a cursor and 3 an iterator that have ended. The PAGE has the objects 0 and 1; NOW is 2; reader 0 has END 7.
     */
    static Run sample(Expect expect, String sentence) {
        return new Run(expect, sentence).make("add(10, 5, 1)", "add(20, -3, 2)", "add(10, 7, 3)", "add(30, 9, 9)", "drop(3)",
            "commit()", "add(20, 1, 4)", "commit()", "view()", "view()", "view()", "cursor(1, 0, 0, 1, 0, 5)",
            "iterator(0, 0, 0, -1)", "cursor(2, 0, 0, 1, 0, 5)", "iterator(2, 0, 0, -1)", "close(2)", "close(3)",
            "letGo(1)", "letGo(2)", "tick(2)", "take(0, 2)", "next(1)", "drop(4)", "add(40, 0, 0)");
    }

    /** The sample with as many readers as there may be: those above 3 are cursors of view 0 that have ended. */
    static Run sampleFullOfReaders(Expect expect, String sentence) {
        Run run = sample(expect, sentence);
        for (int i = 4; i < 60; i++) {
            run.make("cursor(0, 0, 0, 1, 0, 1)", "close(" + i + ")");
        }
        return run;
    }
}
