import java.util.ArrayList;
import java.util.LinkedHashSet;
import java.util.List;
import java.util.Set;

/** Counts what was due and what was not, promise by promise. */
final class Check {
    interface Maker {
        PaidInFog make();
    }

    interface Call {
        long on(PaidInFog x);
    }

    interface CallWith {
        long on(PaidInFog x, int v);
    }

    private final List<String> wrong = new ArrayList<>();
    private final Set<String> sentences = new LinkedHashSet<>();
    private final int[] checks = new int[45];
    private int promise = 0;
    private String sentence = "";

    void promise(int number) {
        promise = number;
        sentence = "";
    }

    /** What is checked from here on is what the document says in these words, and the promise that rests on it. */
    void sentence(int number, String words) {
        promise(number);
        sentence = "'" + words + "' ";
        sentences.add(words);
    }

    /** Every sentence that was checked stands in the document, however its lines are broken. */
    void sentencesStandIn(String document) {
        String text = document.replaceAll("\\s+", " ");
        for (String words : sentences) {
            if (!text.contains(words)) {
                wrong.add("the document doesn't say '" + words + "'");
            }
        }
    }

    void due(String what, long got, long want) {
        checks[promise]++;
        if (got != want) {
            wrong.add("promise " + promise + ": " + sentence + what + " answered " + got + ", due is " + want);
        }
    }

    void same(String what, String got, String want) {
        checks[promise]++;
        if (!got.equals(want)) {
            wrong.add("promise " + promise + ": " + sentence + what + "\n  is  " + got + "\n  due " + want);
        }
    }

    private static int refusals(PaidInFog x) {
        int sum = 0;
        for (int what = 11; what <= 17; what++) {
            sum += x.status(what);
        }
        return sum;
    }

    /** A call that is not refused. */
    void taken(String what, Maker maker, Call call) {
        PaidInFog x = maker.make();
        int were = refusals(x);
        call.on(x);
        due(what + ": more refusals", refusals(x) - were, 0);
    }

    /** From low to high a number may be; the ones next to these may not, nor may the farthest. */
    void bounds(String what, Maker maker, CallWith call, int low, int high, long answer, int countedAs) {
        for (int v : new int[] {low, high}) {
            taken(what + " " + v, maker, x -> call.on(x, v));
        }
        for (int v : new int[] {low - 1, high + 1, Integer.MIN_VALUE, Integer.MAX_VALUE}) {
            refused(what + " " + v, maker, x -> call.on(x, v), answer, countedAs);
        }
    }

    void bounds(String what, Maker maker, CallWith call, int low, int high, int answer) {
        bounds(what, maker, call, low, high, answer, answer);
    }

    /**
     * The call answers a refusal, and nothing changes by it but how many there were: told by two objects made
     * alike, one of which is called.
     */
    void refused(String what, Maker maker, Call call, long answer, int countedAs) {
        PaidInFog untouched = maker.make();
        PaidInFog called = maker.make();
        due(what, call.on(called), answer);
        for (int number = -1; number >= -7; number--) {
            int more = number == countedAs ? 1 : 0;
            due(what + ": refusals " + number, called.status(10 - number), untouched.status(10 - number) + more);
        }
        same(what + ": all else", Snapshot.of(called), Snapshot.of(untouched));
    }

    /** A refusal that is counted as what it answers. */
    void refused(String what, Maker maker, Call call, int answer) {
        refused(what, maker, call, answer, answer);
    }

    /** The call changes nothing, not even how many refusals there were. */
    void changesNothing(String what, Maker maker, Call call) {
        PaidInFog untouched = maker.make();
        PaidInFog called = maker.make();
        call.on(called);
        for (int number = -1; number >= -7; number--) {
            due(what + ": refusals " + number, called.status(10 - number), untouched.status(10 - number));
        }
        same(what + ": all else", Snapshot.of(called), Snapshot.of(untouched));
    }

    /** Prints what was wrong; false if there was something, or a promise without a check. */
    boolean report() {
        for (int number = 1; number < checks.length; number++) {
            if (checks[number] == 0) {
                wrong.add("promise " + number + ": nothing was checked");
            }
        }
        int sum = 0;
        for (int count : checks) {
            sum += count;
        }
        for (String line : wrong) {
            System.out.println(line);
        }
        System.out.println(sum + " checks of " + (checks.length - 1) + " promises and " + sentences.size()
            + " sentences, " + wrong.size() + " wrong");
        return wrong.isEmpty();
    }
}
