/**
 * REFUSALS: each call by each two of its numbers that fit at once, of which the first in the document's order is
 * answered and counted; and each number alone.
 */
final class RefusalEdges {
    private static final String ORDER = "the first that fits, in this order";
    private static final int A_ROW = 0;
    private static final int A_PLACE = 1;
    private static final int NOTHING = 2;
    private static final int INTS = 3;
    private static final int LONG_DAY = 5;
    private static final int WRONG_DAY = 6;
    private static final int NO_SHELF = 8;

    private final Check check;
    private final int number;

    private RefusalEdges(Check check, int promise) {
        this.check = check;
        this.number = promise;
    }

    static void run(Check check) {
        counts(check);
        countsApart(check);
        ofRows(new RefusalEdges(check, 2));
        ofSet(new RefusalEdges(check, 3));
        ofCopy(new RefusalEdges(check, 4));
        ofShow(new RefusalEdges(check, 6));
        ofSays(new RefusalEdges(check, 8));
        ofPlace(new RefusalEdges(check, 9));
        ofPlaceOf(new RefusalEdges(check, 10));
        ofFogAndAsk(new RefusalEdges(check, 11), new RefusalEdges(check, 12));
        ofBottle(new RefusalEdges(check, 13), new RefusalEdges(check, 14));
        ofLaw(new RefusalEdges(check, 15));
        ofHours(check);
        ofLastsAndKeep(new RefusalEdges(check, 23), new RefusalEdges(check, 24));
        ofAhead(new RefusalEdges(check, 25));
        ofRules(check);
        ofTells(new RefusalEdges(check, 30));
        ofJudge(new RefusalEdges(check, 31));
        ofTold(new RefusalEdges(check, 32));
        ofDone(new RefusalEdges(check, 33));
        ofTheRest(check);
        nothingIsRefused(check);
    }

    /** Shelves of every kind; the place in shelf 1 is a hill; eight places, twelve bottles, of which none is EMPTY. */
    private static PaidInFog world() {
        PaidInFog x = World.crowded();
        World.rowOf(x, A_ROW, 0, 0, 1, 0);
        x.show(A_PLACE, 4);
        World.rowOf(x, INTS, 2, 1, 2, 3, 4, 5, 6, 7, 8, 9, 10);
        x.row(LONG_DAY, 0, 160);
        World.rowOf(x, WRONG_DAY, 0, 0, 7);
        x.row(7, 1, 100);
        x.set(7, 0, 9);
        return x;
    }

    /** What a promise says of its refusals. */
    private static String wordsOf(int promise) {
        return switch (promise) {
            case 2 -> "-1; -4; -6 SORT; -7 n above 160.";
            case 3 -> "Element i of the ROW becomes v: 1. -1; -2; -3; -5.";
            case 4 -> "-1; -2 also of two SORTS (when both hold something); -3 either; -4 n; -5 i or j below 0, or an "
                + "end that isn't there.";
            case 6 -> "SHELF s holds a PLACE, or NOTHING (place NONE): 1, 0. -1.";
            case 8 -> "-1 SHELF, KIND; -2 also a PLACE of another KIND; -3.";
            case 9 -> "A PLACE behind all: the number. -1 KIND; -6; -7.";
            case 10 -> "-5: no such one, another what.";
            case 11 -> "FOG of a PLACE becomes v: what it was. -1; -6.";
            case 12 -> "HOUR (6) becomes v: what it was. -6.";
            case 13 -> "the number (the first EMPTY one, else a new one). -1; -6; -7.";
            case 14 -> "-1; -5 another what.";
            case 15 -> "A LAW by the ROW in SHELF s: how many ITEMS. -1; -2; -3; -6 a FAULT.";
            case 18 -> "BEHIND n HOURS: FOG of a PLACE. -1; -6.";
            case 19 -> "BEHIND n HOURS: STRENGTH of a BOTTLE. -1; -6.";
            case 20 -> "BEHIND n HOURS: COINS and WORTH. -6.";
            case 21 -> "THICKEST. -1.";
            case 22 -> "WHERE in n HOURS. -5 no PLACES; -6.";
            case 23 -> "LASTS; NONE. -11 (counted as -1).";
            case 24 -> "KEEP. -1 also an EMPTY one; -6.";
            case 25 -> "-5 no such i; -6 n.";
            case 26 -> "the PLACE (2). -5 another what; -6.";
            case 27 -> "BEST RULE in n HOURS. -6.";
            case 28 -> "LATEST; NONE. -16 (v 0 to 99,999; counted as -6).";
            case 29 -> "PRICE so; NONE. -16 (counted as -6).";
            case 30 -> "-1; -2; -3; -5 fewer elements than PLACES; -6 n.";
            case 31 -> "-11; -12; -13; -14 n; -15 fewer elements; -16 n above 60 (counted as -1 to -6).";
            case 32 -> "-1; -2; -3; -4; -5 also another what; -6 also if it is WRONG.";
            case 33 -> "-1; -2; -3; -4; -5; -6 likewise.";
            case 35 -> "EACH (0 to 3; of those that aren't EMPTY). -5.";
            case 37 -> "An ACT in truth: COINS. -6 it MAY not be.";
            case 38 -> "A SEASON of n HOURS (1 to 200) by draws: COINS more. -6.";
            default -> "-6 there is none.";
        };
    }

    private void first(String fits, Check.Call call, int answer, int countedAs) {
        check.sentence(number, wordsOf(number));
        check.refused(fits, RefusalEdges::world, call, answer, countedAs);
    }

    private void first(String fits, Check.Call call, int answer) {
        first(fits, call, answer, answer);
    }

    private static void counts(Check check) {
        check.sentence(44, ORDER);
        check.due("-1 and all others", world().place(9, 99, 999), -1);
        check.sentence(44, "nothing changes but how many there were");
        PaidInFog x = world();
        Check.Call[] calls = {y -> y.thick(8, 0), y -> y.says(0, 0), y -> y.law(2), y -> y.row(0, 0, -1),
            y -> y.each(4), y -> y.does(9), y -> y.place(0, 0, 0)};
        int[] were = new int[8];
        for (int round = 0; round < 30; round++) {
            int which = round * round % 7;
            check.due("refusal " + (-1 - which), calls[which].on(x), -1 - which);
            were[which]++;
            for (int i = 0; i < 7; i++) {
                check.due("refusals " + (-1 - i), x.status(11 + i), were[i]);
            }
        }
        x.image();
        x.restore();
        for (int i = 0; i < 7; i++) {
            check.due("refusals " + (-1 - i) + " behind restore()", x.status(11 + i), were[i]);
        }
    }

    private static void countsApart(Check check) {
        check.sentence(31, "(counted as -1 to -6)");
        PaidInFog x = world();
        int[] answers = {x.judge(NO_SHELF, 0), x.judge(A_PLACE, 0), x.judge(NOTHING, 0), x.judge(A_ROW, -1),
            x.judge(A_ROW, 4), x.judge(LONG_DAY, 61)};
        for (int i = 0; i < 6; i++) {
            check.due("answer", answers[i], -11 - i);
            check.due("counted as " + (-1 - i), x.status(11 + i), 1);
        }
        check.due("none as -7", x.status(17), 0);
        check.sentence(23, "-11 (counted as -1).");
        check.due("lasts", x.lasts(12), -11);
        check.due("counted", x.status(11), 2);
        check.sentence(28, "-16 (v 0 to 99,999; counted as -6).");
        check.due("latest", x.latest(0, 0, -1), -16);
        check.due("counted", x.status(16), 2);
        check.sentence(29, "-16 (counted as -6).");
        check.due("dear", x.dear(-1), -16);
        check.due("counted", x.status(16), 3);
    }

    private static void ofRows(RefusalEdges row) {
        row.first("-1", x -> x.row(NO_SHELF, 0, 0), -1);
        row.first("-1, -4", x -> x.row(NO_SHELF, 0, -1), -1);
        row.first("-1, -6", x -> x.row(-1, 4, 0), -1);
        row.first("-1, -7", x -> x.row(NO_SHELF, 0, 161), -1);
        row.first("-1, -4, -6", x -> x.row(NO_SHELF, -1, -1), -1);
        row.first("-4", x -> x.row(NOTHING, 0, -1), -4);
        row.first("-4, -6", x -> x.row(A_ROW, 4, -1), -4);
        row.first("-6", x -> x.row(A_PLACE, 4, 160), -6);
        row.first("-6, -7", x -> x.row(A_ROW, -1, 161), -6);
        row.first("-7", x -> x.row(A_ROW, 0, 161), -7);
    }

    private static void ofSet(RefusalEdges set) {
        set.first("-1", x -> x.set(NO_SHELF, 0, 0), -1);
        set.first("-1, -5", x -> x.set(-1, -1, 0), -1);
        set.first("-2", x -> x.set(A_PLACE, 0, 0), -2);
        set.first("-2, -5", x -> x.set(A_PLACE, -1, 0), -2);
        set.first("-3", x -> x.set(NOTHING, 0, 0), -3);
        set.first("-3, -5", x -> x.set(NOTHING, -1, 0), -3);
        set.first("-5", x -> x.set(A_ROW, 3, 0), -5);
    }

    private static void ofCopy(RefusalEdges copy) {
        int[] others = {A_ROW, A_PLACE, NOTHING, INTS, -1, NO_SHELF};
        for (int other : others) {
            copy.first("-1 from, and SHELF " + other, x -> x.copy(NO_SHELF, other, 0, 0, 0), -1);
            copy.first("-1 to, and SHELF " + other, x -> x.copy(other, -1, 0, 0, 0), -1);
            copy.first("-1 from, -4, and SHELF " + other, x -> x.copy(-1, other, 0, 0, -1), -1);
            copy.first("-1 to, -5, and SHELF " + other, x -> x.copy(other, NO_SHELF, -1, 99, 1), -1);
        }
        int[][] twoKinds = {{A_PLACE, A_ROW}, {A_ROW, A_PLACE}, {A_PLACE, A_PLACE}, {A_PLACE, NOTHING},
            {NOTHING, A_PLACE}, {A_ROW, INTS}, {INTS, A_ROW}, {7, INTS}, {7, A_ROW}};
        for (int[] at : twoKinds) {
            String what = at[0] + " to " + at[1];
            copy.first("-2, " + what, x -> x.copy(at[0], at[1], 0, 0, 0), -2);
            copy.first("-2, -4, " + what, x -> x.copy(at[0], at[1], 0, 0, -1), -2);
            copy.first("-2, -5, " + what, x -> x.copy(at[0], at[1], -1, -1, 1), -2);
        }
        int[][] nothing = {{A_ROW, NOTHING}, {NOTHING, A_ROW}, {NOTHING, NOTHING}, {INTS, NOTHING}, {NOTHING, 4}};
        for (int[] at : nothing) {
            String what = at[0] + " to " + at[1];
            copy.first("-3, " + what, x -> x.copy(at[0], at[1], 0, 0, 0), -3);
            copy.first("-3, -4, " + what, x -> x.copy(at[0], at[1], 0, 0, -1), -3);
            copy.first("-3, -5, " + what, x -> x.copy(at[0], at[1], -1, -1, 1), -3);
        }
        copy.first("-4", x -> x.copy(A_ROW, LONG_DAY, 0, 0, -1), -4);
        copy.first("-4, -5", x -> x.copy(A_ROW, LONG_DAY, -1, 161, -1), -4);
        copy.first("-5 from", x -> x.copy(A_ROW, LONG_DAY, 1, 0, 3), -5);
        copy.first("-5 to", x -> x.copy(LONG_DAY, A_ROW, 0, 1, 3), -5);
    }

    private static void ofShow(RefusalEdges show) {
        show.first("-1, SHELF", x -> x.show(NO_SHELF, 0), -1);
        show.first("-1, PLACE", x -> x.show(A_ROW, 8), -1);
        show.first("-1, both", x -> x.show(-1, -2), -1);
        show.first("-1, SHELF and NOTHING", x -> x.show(-1, -1), -1);
    }

    private static void ofSays(RefusalEdges says) {
        says.first("-1, SHELF", x -> x.says(NO_SHELF, 0), -1);
        says.first("-1, KIND", x -> x.says(A_PLACE, 7), -1);
        says.first("-1, both", x -> x.says(-1, -1), -1);
        says.first("-1, -2 by a ROW", x -> x.says(A_ROW, 7), -1);
        says.first("-1, -3", x -> x.says(NOTHING, -1), -1);
        says.first("-2 by a ROW", x -> x.says(A_ROW, 0), -2);
        for (int kind : new int[] {1, 2, 3, 5, 6}) {
            says.first("-2, a HILL as " + kind, x -> x.says(A_PLACE, kind), -2);
        }
        says.first("-3", x -> x.says(NOTHING, 0), -3);
    }

    private static void ofPlace(RefusalEdges place) {
        place.first("-1, -7", x -> x.place(7, 0, 0), -1);
        place.first("-1, -6, -7", x -> x.place(-1, 10, 0), -1);
        place.first("-1, -6, -7", x -> x.place(7, 0, -1), -1);
        place.first("-6 a, -7", x -> x.place(0, 10, 0), -6);
        place.first("-6 FOG, -7", x -> x.place(0, 0, 100), -6);
        place.first("-7", x -> x.place(0, 0, 0), -7);
    }

    private static void ofPlaceOf(RefusalEdges placeOf) {
        placeOf.first("-5, PLACE", x -> x.placeOf(8, 0), -5);
        placeOf.first("-5, PLACE -1", x -> x.placeOf(-1, 4), -5);
        placeOf.first("-5, what", x -> x.placeOf(7, 5), -5);
        placeOf.first("-5, both", x -> x.placeOf(8, -1), -5);
    }

    private static void ofFogAndAsk(RefusalEdges fog, RefusalEdges ask) {
        fog.first("-1", x -> x.fog(8, 0), -1);
        fog.first("-1, -6", x -> x.fog(-1, 100), -1);
        fog.first("-6", x -> x.fog(7, -1), -6);
        ask.first("-6, what", x -> x.ask(7, 0), -6);
        ask.first("-6, v", x -> x.ask(3, 100), -6);
        ask.first("-6, both", x -> x.ask(-1, -2), -6);
    }

    private static void ofBottle(RefusalEdges bottle, RefusalEdges bottleOf) {
        bottle.first("-1, -7", x -> x.bottle(8, 5), -1);
        bottle.first("-1, -6, -7", x -> x.bottle(-1, 0), -1);
        bottle.first("-6, -7", x -> x.bottle(0, 100), -6);
        bottle.first("-6, -7", x -> x.bottle(7, 0), -6);
        bottle.first("-7", x -> x.bottle(0, 99), -7);
        bottleOf.first("-1", x -> x.bottleOf(12, 0), -1);
        bottleOf.first("-1, -5", x -> x.bottleOf(-1, 3), -1);
        bottleOf.first("-5", x -> x.bottleOf(11, 3), -5);
    }

    private static void ofLaw(RefusalEdges law) {
        law.first("-1", x -> x.law(NO_SHELF), -1);
        law.first("-1", x -> x.law(-1), -1);
        law.first("-2", x -> x.law(A_PLACE), -2);
        law.first("-3", x -> x.law(NOTHING), -3);
        Check check = law.check;
        check.sentence(15, "-1; -2; -3; -6 a FAULT.");
        check.refused("-6", RefusalEdges::withAFault, x -> x.law(7), -6);
    }

    private static PaidInFog withAFault() {
        PaidInFog x = world();
        World.law(x, "west;hour 2;place 0 0 0");
        return x;
    }

    private static void ofHours(Check check) {
        RefusalEdges thick = new RefusalEdges(check, 18);
        thick.first("-1", x -> x.thick(8, 0), -1);
        thick.first("-1, -6", x -> x.thick(-1, 100), -1);
        thick.first("-6", x -> x.thick(7, 100), -6);
        RefusalEdges strength = new RefusalEdges(check, 19);
        strength.first("-1", x -> x.strength(12, 0), -1);
        strength.first("-1, -6", x -> x.strength(-1, -1), -1);
        strength.first("-6", x -> x.strength(11, -1), -6);
        RefusalEdges worthIn = new RefusalEdges(check, 20);
        worthIn.first("-6", x -> x.worthIn(100), -6);
        RefusalEdges thickest = new RefusalEdges(check, 21);
        thickest.first("-1", x -> x.thickest(8), -1);
        RefusalEdges where = new RefusalEdges(check, 22);
        where.first("-6", x -> x.where(-1), -6);
        check.refused("-5, -6", PaidInFog::new, x -> x.where(-1), -5);
    }

    private static void ofLastsAndKeep(RefusalEdges lasts, RefusalEdges keep) {
        lasts.first("-11", x -> x.lasts(12), -11, -1);
        lasts.first("-11", x -> x.lasts(-1), -11, -1);
        keep.first("-1", x -> x.keep(12, 0), -1);
        keep.first("-1, -6", x -> x.keep(-1, 100), -1);
        keep.first("-6", x -> x.keep(11, 100), -6);
        keep.check.sentence(24, "-1 also an EMPTY one; -6.");
        keep.check.refused("-1, -6 of an EMPTY one", World::busy, x -> x.keep(1, -1), -1);
    }

    private static void ofAhead(RefusalEdges ahead) {
        ahead.first("-5", x -> x.ahead(4, 4), -5);
        ahead.first("-6", x -> x.ahead(5, -1), -6);
        ahead.check.sentence(25, "-5 for a number that goes with another one (an i of a k, one that is found by a "
            + "number) is looked at only if that other one may be; else it is -6.");
        int[] numbers = {0, 5, -1, Integer.MIN_VALUE, Integer.MAX_VALUE};
        int[] places = {-1, 0, 4, 5, -2, Integer.MIN_VALUE, Integer.MAX_VALUE};
        for (int n : numbers) {
            for (int i : places) {
                ahead.check.refused("-6, n " + n + ", i " + i, RefusalEdges::world, x -> x.ahead(n, i), -6);
            }
        }
        for (int n = 1; n <= 4; n++) {
            int rows = n;
            for (int i : new int[] {n, n + 1, -2, Integer.MIN_VALUE, Integer.MAX_VALUE}) {
                ahead.check.refused("-5, n " + n + ", i " + i, RefusalEdges::world, x -> x.ahead(rows, i), -5);
            }
        }
    }

    private static void ofRules(Check check) {
        RefusalEdges by = new RefusalEdges(check, 26);
        by.first("-5", x -> x.by(0, 0, 3), -5);
        by.first("-5, -6 by RULE", x -> x.by(4, 0, 3), -5);
        by.first("-5, -6 by n", x -> x.by(0, 49, -1), -5);
        by.first("-6 by RULE", x -> x.by(-1, 0, 0), -6);
        by.first("-6 by n", x -> x.by(0, -1, 2), -6);
        by.first("-6 by both", x -> x.by(4, 49, 1), -6);
        new RefusalEdges(check, 27).first("-6", x -> x.best(49), -6);
        RefusalEdges latest = new RefusalEdges(check, 28);
        latest.first("-16 by RULE", x -> x.latest(4, 0, 0), -16, -6);
        latest.first("-16 by n", x -> x.latest(0, 49, 0), -16, -6);
        latest.first("-16 by v", x -> x.latest(0, 0, 100000), -16, -6);
        latest.first("-16 by all", x -> x.latest(-1, -1, -1), -16, -6);
        new RefusalEdges(check, 29).first("-16", x -> x.dear(49), -16, -6);
    }

    private static void ofTells(RefusalEdges tells) {
        tells.first("-1", x -> x.tells(NO_SHELF, 0), -1);
        tells.first("-1, -6", x -> x.tells(-1, 25), -1);
        tells.first("-2", x -> x.tells(A_PLACE, 0), -2);
        tells.first("-2, -6", x -> x.tells(A_PLACE, 25), -2);
        tells.first("-3", x -> x.tells(NOTHING, 0), -3);
        tells.first("-3, -6", x -> x.tells(NOTHING, -1), -3);
        tells.first("-5", x -> x.tells(A_ROW, 0), -5);
        tells.first("-5, -6", x -> x.tells(A_ROW, 25), -5);
        tells.first("-6", x -> x.tells(INTS, 25), -6);
    }

    private static void ofJudge(RefusalEdges judge) {
        for (int n : new int[] {0, -1, 61, Integer.MIN_VALUE, Integer.MAX_VALUE}) {
            judge.first("-11, n " + n, x -> x.judge(NO_SHELF, n), -11, -1);
            judge.first("-11, n " + n, x -> x.judge(-1, n), -11, -1);
            judge.first("-12, n " + n, x -> x.judge(A_PLACE, n), -12, -2);
            judge.first("-13, n " + n, x -> x.judge(NOTHING, n), -13, -3);
        }
        judge.first("-14", x -> x.judge(A_ROW, -1), -14, -4);
        judge.first("-15", x -> x.judge(A_ROW, 4), -15, -5);
        judge.first("-15, -16", x -> x.judge(A_ROW, 61), -15, -5);
        judge.first("-15, -16", x -> x.judge(LONG_DAY, 161), -15, -5);
        judge.first("-15, behind an ACT that MAY not be", x -> x.judge(WRONG_DAY, 3), -15, -5);
        judge.first("-16", x -> x.judge(LONG_DAY, 61), -16, -6);
        judge.first("-16", x -> x.judge(LONG_DAY, 160), -16, -6);
    }

    private static void ofTold(RefusalEdges told) {
        for (int what : new int[] {0, 4, -1}) {
            for (int n : new int[] {0, -1, 61, 161}) {
                told.first("-1, n " + n + ", what " + what, x -> x.told(NO_SHELF, n, what), -1);
                told.first("-2, n " + n + ", what " + what, x -> x.told(A_PLACE, n, what), -2);
                told.first("-3, n " + n + ", what " + what, x -> x.told(NOTHING, n, what), -3);
            }
            told.first("-4, what " + what, x -> x.told(A_ROW, -1, what), -4);
            told.first("-5, what " + what, x -> x.told(A_ROW, 4, what), -5);
            told.first("-5, -6 by a day that is WRONG, what " + what, x -> x.told(WRONG_DAY, 3, what), -5);
            told.first("-5, -6 by n, what " + what, x -> x.told(A_ROW, 61, what), -5);
        }
        told.first("-5 by what", x -> x.told(A_ROW, 3, 4), -5);
        told.first("-5 by what, -6 by a day that is WRONG", x -> x.told(WRONG_DAY, 2, 4), -5);
        told.first("-5 by what, -6 by n", x -> x.told(LONG_DAY, 61, -1), -5);
        told.first("-6 by a day that is WRONG", x -> x.told(WRONG_DAY, 2, 3), -6);
        told.first("-6 by n", x -> x.told(LONG_DAY, 61, 3), -6);
        told.check.sentence(32, "-6 also if it is WRONG.");
        told.check.due("not WRONG so far", world().told(WRONG_DAY, 1, 3), 1);
    }

    private static void ofDone(RefusalEdges done) {
        for (int n : new int[] {0, -1, 61, 161}) {
            done.first("-1, n " + n, x -> x.done(NO_SHELF, n), -1);
            done.first("-2, n " + n, x -> x.done(A_PLACE, n), -2);
            done.first("-3, n " + n, x -> x.done(NOTHING, n), -3);
        }
        done.first("-4", x -> x.done(A_ROW, -1), -4);
        done.first("-5", x -> x.done(A_ROW, 4), -5);
        done.first("-5, -6 by a day that is WRONG", x -> x.done(WRONG_DAY, 3), -5);
        done.first("-5, -6 by n", x -> x.done(A_ROW, 61), -5);
        done.first("-6 by a day that is WRONG", x -> x.done(WRONG_DAY, 2), -6);
        done.first("-6 by n", x -> x.done(LONG_DAY, 61), -6);
        done.check.sentence(33, "-1; -2; -3; -4; -5; -6 likewise.");
        done.check.taken("not WRONG so far", RefusalEdges::world, x -> x.done(WRONG_DAY, 1));
    }

    private static void ofTheRest(Check check) {
        new RefusalEdges(check, 35).first("-5", x -> x.each(4), -5);
        new RefusalEdges(check, 37).first("-6", x -> x.does(3), -6);
        new RefusalEdges(check, 37).first("-6", x -> x.does(7), -6);
        new RefusalEdges(check, 38).first("-6", x -> x.season(201), -6);
        new RefusalEdges(check, 43).first("-6", PaidInFog::restore, -6);
    }

    private static void nothingIsRefused(Check check) {
        check.sentence(44, "the call answers the number; nothing changes but how many there were");
        Check.Call[] calls = {x -> x.element(NO_SHELF, -1), x -> x.holds(NO_SHELF), x -> x.fault(), x -> x.may(),
            x -> x.worth(), x -> x.richest(), x -> x.seed(0), x -> x.act(8, 3, 0), x -> x.trace(99), x -> x.image(),
            x -> x.status(99)};
        for (int i = 0; i < calls.length; i++) {
            check.taken("call " + i + " refuses nothing", RefusalEdges::world, calls[i]);
            check.taken("call " + i + " refuses nothing", PaidInFog::new, calls[i]);
        }
    }
}
