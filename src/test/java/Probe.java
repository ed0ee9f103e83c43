import java.util.ArrayList;
import java.util.List;

/**
 * All that can be found out about an object after a run of calls: its answers to every question,
 * and, each time with an object of its own, what restart, read and restoreSnapshot bring to light.
 * No object gets more than the document's 512 calls.
 */
final class Probe {
    private static final int MAX_CALLS = 512;
    private static final int MAX_SIGNALS = 24;
    // Behind a longer run, the calls that read the input would not fit one object.
    private static final int LONGEST_RUN = 300;

    private Probe() {
    }

    static String after(List<Call> calls) {
        if (calls.size() > LONGEST_RUN) {
            throw new IllegalArgumentException("the run is too long for a probe");
        }
        return told(calls, new Call("count"), questions())
                + "\nafter restart: " + told(calls, new Call("restart"), values())
                + "\nwith the input: " + told(calls, new Call("feed", '1'), reading())
                + "\nwith the snapshot: " + told(calls, new Call("restoreSnapshot"), questions())
                + "\nits cycles: " + told(calls, new Call("restoreSnapshot"), List.of(new Call("restart")));
    }

    /** The answers to the questions, each asked behind all the calls and the opening one. */
    private static String told(List<Call> calls, Call opening, List<Call> questions) {
        StringBuilder answers = new StringBuilder();
        int room = MAX_CALLS - calls.size() - 1;
        for (int from = 0; from < questions.size(); from += room) {
            WidthMinimizer object = new WidthMinimizer();
            for (Call call : calls) {
                call.answerOf(object);
            }
            String opened = opening.answerOf(object);
            answers.append(from == 0 ? opened : "");
            for (Call question : questions.subList(from, Math.min(questions.size(), from + room))) {
                answers.append(' ').append(question.answerOf(object));
            }
        }
        return answers.toString();
    }

    private static List<Call> questions() {
        List<Call> all = new ArrayList<>(List.of(new Call("rounds"), new Call("share"), new Call("units")));
        for (int i = 0; i < 5; i++) {
            all.add(new Call("total", i));
        }
        for (int i = 0; i < 6; i++) {
            all.add(new Call("fault", i / 2, i % 2));
        }
        for (int i = 0; i < MAX_SIGNALS; i++) {
            for (int what = 0; what <= 6; what++) {
                all.add(new Call("signal", i, what));
            }
            for (String name : List.of("range", "width", "value")) {
                all.add(new Call(name, i, false));
                all.add(new Call(name, i, true));
            }
            for (String name : List.of("demanded", "isSigned", "cost", "unitOf")) {
                all.add(new Call(name, i));
            }
            for (int what = 0; what <= 4; what++) {
                all.add(new Call("unit", i, what));
            }
        }
        return all;
    }

    private static List<Call> values() {
        List<Call> all = new ArrayList<>();
        for (int i = 0; i < MAX_SIGNALS; i++) {
            all.add(new Call("value", i, false));
            all.add(new Call("value", i, true));
        }
        return all;
    }

    private static List<Call> reading() {
        List<Call> all = new ArrayList<>(List.of(new Call("read"), new Call("count")));
        for (int i = 0; i < 6; i++) {
            all.add(new Call("fault", i / 2, i % 2));
        }
        for (int i = 0; i < MAX_SIGNALS; i++) {
            for (int what = 0; what <= 5; what++) {
                all.add(new Call("signal", i, what));
            }
        }
        return all;
    }
}
