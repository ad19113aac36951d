import java.util.ArrayList;
import java.util.List;

/** Counts what was due and what was not, promise by promise. */
final class Check {
    interface Maker {
        PaidInFog make();
    }

    interface Call {
        long on(PaidInFog x);
    }

    private final List<String> wrong = new ArrayList<>();
    private final int[] checks = new int[45];
    private int promise = 0;

    void promise(int number) {
        promise = number;
    }

    void due(String what, long got, long want) {
        checks[promise]++;
        if (got != want) {
            wrong.add("promise " + promise + ": " + what + " answered " + got + ", due is " + want);
        }
    }

    void same(String what, String got, String want) {
        checks[promise]++;
        if (!got.equals(want)) {
            wrong.add("promise " + promise + ": " + what + "\n  is  " + got + "\n  due " + want);
        }
    }

    /**
     * The call answers a refusal, and nothing changes by it but how many there were: told by two objects made
     * alike, one of which is called.
     */
    void refused(String what, Maker maker, Call call, long answer, int countedAs) {
        PaidInFog untouched = maker.make();
        PaidInFog called = maker.make();
        due(what, call.on(called), answer);
        for (int number = -1; number >= -7; number--) {
            int more = number == countedAs ? 1 : 0;
            due(what + ": refusals " + number, called.status(10 - number), untouched.status(10 - number) + more);
        }
        same(what + ": all else", Snapshot.of(called), Snapshot.of(untouched));
    }

    /** A refusal that is counted as what it answers. */
    void refused(String what, Maker maker, Call call, int answer) {
        refused(what, maker, call, answer, answer);
    }

    /** The call changes nothing, not even how many refusals there were. */
    void changesNothing(String what, Maker maker, Call call) {
        PaidInFog untouched = maker.make();
        PaidInFog called = maker.make();
        call.on(called);
        for (int number = -1; number >= -7; number--) {
            due(what + ": refusals " + number, called.status(10 - number), untouched.status(10 - number));
        }
        same(what + ": all else", Snapshot.of(called), Snapshot.of(untouched));
    }

    /** Prints what was wrong; false if there was something, or a promise without a check. */
    boolean report() {
        for (int number = 1; number < checks.length; number++) {
            if (checks[number] == 0) {
                wrong.add("promise " + number + ": nothing was checked");
            }
        }
        int sum = 0;
        for (int count : checks) {
            sum += count;
        }
        for (String line : wrong) {
            System.out.println(line);
        }
        System.out.println(sum + " checks of " + (checks.length - 1) + " promises, " + wrong.size() + " wrong");
        return wrong.isEmpty();
    }
}
