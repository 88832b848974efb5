import java.util.ArrayList;
import java.util.List;

/**
 * Runs of calls on new objects, told as texts with the answers that are due: "put 0 1 1 = 0". Behind
 * the = stands a number, or index, turn, range or meaning for a call that is refused; a call without
 * one has to be taken. A refused call has to leave the object as it was: each is followed by a look
 * at all that can be seen, beside the same run without it.
 */
final class Edges {
    private static final String LEAST = Integer.toString(Integer.MIN_VALUE);
    private static final String MOST = Integer.toString(Integer.MAX_VALUE);

    private final Due due = new Due();

    static String times(int count, String call) {
        StringBuilder row = new StringBuilder(call);
        for (int i = 1; i < count; i++) {
            row.append("; ").append(call);
        }
        return row.toString();
    }

    void run(String sentence, String... lines) {
        List<String> calls = new ArrayList<>();
        for (String line : lines) {
            for (String call : line.split(";")) {
                calls.add(call.trim().replace("LEAST", LEAST).replace("MOST", MOST));
            }
        }
        PileLifts x = new PileLifts();
        for (int i = 0; i < calls.size(); i++) {
            String call = calls.get(i);
            check(sentence + ": call " + i + ", " + call, x, call);
            if (isRefused(call)) {
                changesNothing(sentence, calls.subList(0, i), call);
            }
        }
    }

    void end() {
        due.end();
    }

    private void check(String what, PileLifts x, String call) {
        String got = Calls.answer(x, callOf(call));
        if (call.contains("=")) {
            due.is(what, got, dueOf(call));
        } else {
            due.is(what, got.startsWith("throws") ? got : "taken", "taken");
        }
    }

    private static String callOf(String text) {
        return text.split("=")[0].trim();
    }

    private static String dueOf(String text) {
        String told = text.split("=")[1].trim();
        switch (told) {
            case "index":
                return "throws.IndexOutOfBoundsException";
            case "turn":
                return "throws.IllegalStateException";
            case "range":
                return "throws.IllegalArgumentException";
            case "meaning":
                return "throws.UnsupportedOperationException";
            default:
                return told;
        }
    }

    private static boolean isRefused(String call) {
        return call.contains("=") && dueOf(call).startsWith("throws");
    }

    private void changesNothing(String sentence, List<String> ahead, String refused) {
        PileLifts asked = new PileLifts();
        PileLifts spared = new PileLifts();
        for (String call : ahead) {
            Calls.answer(asked, callOf(call));
            Calls.answer(spared, callOf(call));
        }
        Calls.answer(asked, callOf(refused));
        due.is(sentence + ": " + refused + " changes nothing", look(asked), look(spared));
    }

    /** All that can be seen of an object, at last by calls that change it. */
    private static String look(PileLifts x) {
        List<String> calls = new ArrayList<>();
        calls.add("bound");
        calls.add("proved");
        calls.add("moves");
        for (int k = 0; k < 22; k++) {
            calls.add("move " + k + " 0");
            calls.add("move " + k + " 1");
        }
        for (int piece = 0; piece < 10; piece++) {
            for (int what = 0; what < 5; what++) {
                calls.add("at " + piece + " " + what);
            }
            calls.add("may 0 " + piece);
            calls.add("may " + piece + " 0");
        }
        for (int piece = 0; piece < 10; piece++) {
            calls.add("load " + piece);
        }
        for (int i = 0; i < 5; i++) {
            calls.add("wagon 1000");
        }
        for (int i = 0; i < 24; i++) {
            calls.add("put " + i % 4 + " 1 1");
        }
        StringBuilder seen = new StringBuilder();
        for (String call : calls) {
            seen.append(call).append(" = ").append(Calls.answer(x, call)).append("; ");
        }
        return seen.toString();
    }
}
