/** Promises 1 to 8: a new object, and shelves. */
final class ShelfTests {
    private static final int MAX = Integer.MAX_VALUE;
    private static final int MIN = Integer.MIN_VALUE;

    private ShelfTests() {
    }

    static void run(Check check) {
        newObject(check);
        row(check);
        set(check);
        copy(check);
        copyRefused(check);
        element(check);
        show(check);
        holds(check);
        says(check);
        saysBySun(check);
        saysRefused(check);
    }

    private static void newObject(Check check) {
        check.promise(1);
        PaidInFog x = new PaidInFog();
        int[] due = {0, 0, 0, 0, 0, 0, 0, 1, 7, 9, 0, 0, 0, 0, 0, 0, 0, 0, 1, 0, 0};
        for (int what = 0; what < due.length; what++) {
            check.due("status(" + what + ")", x.status(what), due[what]);
        }
        for (int s = 0; s < 8; s++) {
            check.due("holds(" + s + ")", x.holds(s), -1);
        }
        check.due("NONE", PaidInFog.NONE, -1);
        check.due("fault()", x.fault(), -1);
        check.due("trace(0)", x.trace(0), -1);
        check.due("may()", x.may(), 1);
        check.due("worth()", x.worth(), 0);
        check.due("richest()", x.richest(), -1);
        check.due("price of class 1", x.ask(3, 0), 1);
        check.due("price of class 2", x.ask(4, 0), 4);
        check.due("price of class 3", x.ask(5, 0), 9);
        check.due("restore()", x.restore(), -6);
    }

    private static void row(Check check) {
        check.promise(2);
        PaidInFog x = World.busy();
        check.due("row(0, 3, 160)", x.row(0, 3, 160), 1);
        check.due("holds(0)", x.holds(0), 103);
        check.due("an element of a new row", x.element(0, 1), 0);
        check.due("the last element can be set", x.set(0, 159, 4), 1);
        check.due("one behind it can't", x.set(0, 160, 4), -5);
        check.due("row(2, 1, 0) over a place", x.row(2, 1, 0), 1);
        check.due("holds(2)", x.holds(2), 101);
        check.due("row(7, 0, 1)", x.row(7, 0, 1), 1);
        check.due("a shorter row has only its own elements", x.row(0, 3, 2), 1);
        check.due("element(0, 159)", x.element(0, 159), 0);
        check.due("row(0, 3, 160) again", x.row(0, 3, 160), 1);
        check.due("old elements are gone", x.element(0, 159), 0);
        check.due("row(3, 2, 3)", x.row(3, 2, 3), 1);
        elementsAre(check, "a new row", x, 3, 0, 0, 0);
        check.refused("row(-1, ..)", World::busy, y -> y.row(-1, 9, -1), -1);
        check.refused("row(8, ..)", World::busy, y -> y.row(8, 0, 1), -1);
        check.refused("row below 0", World::busy, y -> y.row(0, 4, -1), -4);
        check.refused("row of size MIN", World::busy, y -> y.row(0, 0, MIN), -4);
        check.refused("sort 4", World::busy, y -> y.row(0, 4, 161), -6);
        check.refused("sort -1", World::busy, y -> y.row(0, -1, 1), -6);
        check.refused("row of 161", World::busy, y -> y.row(0, 0, 161), -7);
        check.refused("row of MAX", World::busy, y -> y.row(2, 3, MAX), -7);
    }

    private static void set(Check check) {
        check.promise(3);
        keeps(check, 0, 300, 44);
        keeps(check, 0, 200, -56);
        keeps(check, 0, -129, 127);
        keeps(check, 1, 40000, -25536);
        keeps(check, 1, 65536 + 7, 7);
        keeps(check, 2, (1L << 32) + 5, 5);
        keeps(check, 2, 1L << 31, MIN);
        keeps(check, 3, Long.MIN_VALUE, Long.MIN_VALUE);
        PaidInFog x = World.busy();
        check.due("set(3, 1, 9)", x.set(3, 1, 9), 1);
        check.due("the one ahead", x.element(3, 0), 5);
        check.due("the one behind", x.element(3, 2), 7);
        check.refused("set(-1, ..)", World::busy, y -> y.set(-1, 0, 1), -1);
        check.refused("set(8, ..)", World::busy, y -> y.set(8, 0, 1), -1);
        check.refused("set of a place", World::busy, y -> y.set(2, -1, 1), -2);
        check.refused("set of nothing", World::busy, y -> y.set(4, -1, 1), -3);
        check.refused("set(3, -1, ..)", World::busy, y -> y.set(3, -1, 1), -5);
        check.refused("set(3, 3, ..)", World::busy, y -> y.set(3, 3, 1), -5);
        check.refused("set(3, MAX, ..)", World::busy, y -> y.set(3, MAX, 1), -5);
        check.refused("set(3, MIN, ..)", World::busy, y -> y.set(3, MIN, 1), -5);
    }

    private static void keeps(Check check, int sort, long put, long kept) {
        PaidInFog x = new PaidInFog();
        x.row(0, sort, 1);
        check.due("set of sort " + sort, x.set(0, 0, put), 1);
        check.due("sort " + sort + " keeps of " + put, x.element(0, 0), kept);
    }

    private static void elementsAre(Check check, String what, PaidInFog x, int s, long... due) {
        for (int i = 0; i < due.length; i++) {
            check.due(what + ", element " + i, x.element(s, i), due[i]);
        }
    }

    private static PaidInFog twoRows() {
        PaidInFog x = World.alone(World.FIELD, 0, 0);
        World.rowOf(x, 0, 2, 1, 2, 3, 4, 5);
        World.rowOf(x, 1, 2, 10, 20, 30);
        World.rowOf(x, 2, 1, 7, 8);
        x.show(3, 0);
        return x;
    }

    private static void copy(Check check) {
        check.promise(4);
        PaidInFog x = twoRows();
        check.due("copy(0, 1, 3, 0, 2)", x.copy(0, 1, 3, 0, 2), 1);
        elementsAre(check, "to", x, 1, 4, 5, 30);
        elementsAre(check, "from", x, 0, 1, 2, 3, 4, 5);
        check.due("copy(0, 0, 0, 1, 4)", x.copy(0, 0, 0, 1, 4), 1);
        elementsAre(check, "onto itself, on", x, 0, 1, 1, 2, 3, 4);
        x = twoRows();
        check.due("copy(0, 0, 1, 0, 4)", x.copy(0, 0, 1, 0, 4), 1);
        elementsAre(check, "onto itself, back", x, 0, 2, 3, 4, 5, 5);
        x = twoRows();
        check.due("all of a row", x.copy(1, 0, 0, 2, 3), 1);
        elementsAre(check, "to the end", x, 0, 1, 2, 10, 20, 30);
        x.row(4, 2, 160);
        check.due("to the end of a long row", x.copy(0, 4, 2, 157, 3), 1);
        check.due("its last element", x.element(4, 159), 30);
        check.due("none, at the ends", x.copy(0, 1, 5, 3, 0), 1);
        elementsAre(check, "none", x, 1, 10, 20, 30);
    }

    private static void copyRefused(Check check) {
        check.promise(4);
        check.refused("copy(-1, ..)", ShelfTests::twoRows, y -> y.copy(-1, 3, 0, 0, -1), -1);
        check.refused("copy(.., 8)", ShelfTests::twoRows, y -> y.copy(3, 8, 0, 0, -1), -1);
        check.refused("from a place to nothing", ShelfTests::twoRows, y -> y.copy(3, 5, 0, 0, -1), -2);
        check.refused("from nothing to a place", ShelfTests::twoRows, y -> y.copy(5, 3, 0, 0, -1), -2);
        check.refused("of two sorts", ShelfTests::twoRows, y -> y.copy(0, 2, 0, 0, -1), -2);
        check.refused("from nothing", ShelfTests::twoRows, y -> y.copy(5, 0, 0, 0, -1), -3);
        check.refused("to nothing", ShelfTests::twoRows, y -> y.copy(0, 5, 0, 0, -1), -3);
        check.refused("both nothing", ShelfTests::twoRows, y -> y.copy(5, 6, 0, 0, -1), -3);
        check.refused("-1 of them", ShelfTests::twoRows, y -> y.copy(0, 1, -1, 0, -1), -4);
        check.refused("i below 0", ShelfTests::twoRows, y -> y.copy(0, 1, -1, 0, 1), -5);
        check.refused("j below 0", ShelfTests::twoRows, y -> y.copy(0, 1, 0, -1, 1), -5);
        check.refused("i below 0, none", ShelfTests::twoRows, y -> y.copy(0, 1, -1, 0, 0), -5);
        check.refused("an end behind from", ShelfTests::twoRows, y -> y.copy(0, 1, 4, 0, 2), -5);
        check.refused("an end behind to", ShelfTests::twoRows, y -> y.copy(0, 1, 0, 2, 2), -5);
        check.refused("a start behind the end", ShelfTests::twoRows, y -> y.copy(0, 1, 6, 0, 0), -5);
        check.refused("MAX", ShelfTests::twoRows, y -> y.copy(0, 1, MAX, MAX, MAX), -5);
    }

    private static void element(Check check) {
        check.promise(5);
        PaidInFog x = World.busy();
        check.due("element(3, 2)", x.element(3, 2), 7);
        check.due("element(5, 1)", x.element(5, 1), 1L << 40);
        int[][] none = {{3, 3}, {3, -1}, {3, MAX}, {-1, 0}, {8, 0}, {4, 0}, {2, 0}, {MIN, MIN}};
        for (int[] at : none) {
            check.due("element(" + at[0] + ", " + at[1] + ")", World.busy().element(at[0], at[1]), 0);
            check.changesNothing("element", World::busy, y -> y.element(at[0], at[1]));
        }
    }

    private static void show(Check check) {
        check.promise(6);
        PaidInFog x = World.busy();
        check.due("show(4, 6)", x.show(4, 6), 1);
        check.due("holds(4)", x.holds(4), 6);
        check.due("show(0, 0) over a row", x.show(0, 0), 1);
        check.due("holds(0)", x.holds(0), 0);
        check.due("no elements of a place", x.element(0, 1), 0);
        check.due("show(4, NONE)", x.show(4, -1), 0);
        check.due("holds(4)", x.holds(4), -1);
        check.due("show(3, NONE) over a row", x.show(3, -1), 0);
        check.due("element(3, 0)", x.element(3, 0), 0);
        check.due("show(3, NONE) over nothing", x.show(3, -1), 0);
        check.refused("show(-1, ..)", World::busy, y -> y.show(-1, 0), -1);
        check.refused("show(8, NONE)", World::busy, y -> y.show(8, -1), -1);
        check.refused("show(3, 7)", World::busy, y -> y.show(3, 7), -1);
        check.refused("show(3, -2)", World::busy, y -> y.show(3, -2), -1);
        check.refused("no places", PaidInFog::new, y -> y.show(3, 0), -1);
    }

    private static void holds(Check check) {
        check.promise(7);
        PaidInFog x = World.busy();
        check.due("bytes", x.holds(0), 100);
        check.due("ints", x.holds(3), 102);
        check.due("longs", x.holds(5), 103);
        check.due("a place", x.holds(2), 4);
        check.due("nothing", x.holds(4), -1);
        check.due("holds(-1)", x.holds(-1), -1);
        check.due("holds(8)", x.holds(8), -1);
        x.row(4, 1, 0);
        check.due("shorts", x.holds(4), 101);
        check.changesNothing("holds(8)", World::busy, y -> y.holds(8));
    }

    private static int says(PaidInFog x, int place, int kind) {
        x.show(0, place);
        return x.says(0, kind);
    }

    private static void says(Check check) {
        check.promise(8);
        PaidInFog x = World.ofAllKinds();
        int[] fogs = {50, 30, 80, 20, 99, 47, 60};
        for (int p = 0; p < fogs.length; p++) {
            check.due("place " + p + " as a field", says(x, p, World.FIELD), fogs[p]);
        }
        check.due("a cellar", says(x, 1, World.CELLAR), 2);
        check.due("a vault below its hour", says(x, 3, World.VAULT), 0);
        check.due("a vault as a cellar", says(x, 3, World.CELLAR), 0);
        check.due("a bridge", says(x, 2, World.BRIDGE), 10);
        check.due("a marsh, cut", says(x, 5, World.MARSH), 5);
        check.due("a marsh as a bridge", says(x, 5, World.BRIDGE), 5);
        check.due("a hill, no sun", says(x, 4, World.HILL), 10);
        check.due("a peak", says(x, 6, World.PEAK), 15);
        check.due("a peak as a hill", says(x, 6, World.HILL), 15);
        x.ask(6, 1);
        check.due("a vault at hour 1", says(x, 3, World.VAULT), 0);
        x.ask(6, 2);
        check.due("a vault at hour 2", says(x, 3, World.VAULT), 1);
    }

    private static void saysBySun(Check check) {
        check.promise(8);
        PaidInFog x = World.ofAllKinds();
        x.ask(6, 7);
        x.ask(0, -1);
        check.due("a cellar in the sun", says(x, 1, World.CELLAR), 4);
        check.due("a vault in the sun", says(x, 3, World.VAULT), 2);
        check.due("a vault in the sun as a cellar", says(x, 3, World.CELLAR), 2);
        check.due("a hill in the sun", says(x, 4, World.HILL), 10);
        check.due("a bridge in a wind", says(x, 2, World.BRIDGE), 10);
        x.fog(6, 3);
        check.due("a peak with little fog", says(x, 6, World.PEAK), 15);
    }

    private static void saysRefused(Check check) {
        check.promise(8);
        check.refused("says(-1, ..)", World::busy, y -> y.says(-1, 0), -1);
        check.refused("says(8, ..)", World::busy, y -> y.says(8, 0), -1);
        check.refused("kind 7", World::busy, y -> y.says(0, 7), -1);
        check.refused("kind -1", World::busy, y -> y.says(2, -1), -1);
        check.refused("a row", World::busy, y -> y.says(0, 0), -2);
        check.refused("nothing", World::busy, y -> y.says(4, 1), -3);
        int[] above = {-1, 0, 0, 1, 0, 2, 4};
        for (int place = 0; place < 7; place++) {
            for (int kind = 0; kind < 7; kind++) {
                boolean fits = kind == place || kind == 0 || kind == above[place];
                PaidInFog x = World.ofAllKinds();
                says(x, place, kind);
                check.due("place " + place + " as kind " + kind, x.status(12), fits ? 0 : 1);
            }
        }
        check.refused("a hill as a peak", World::busy, y -> y.says(2, 6), -2);
    }
}
