/** What the document says of SHELVES, MOVES, THE IMAGE and how things stand, sentence by sentence. */
final class ShelfEdges {
    private static final int MAX = Integer.MAX_VALUE;
    private static final int MIN = Integer.MIN_VALUE;
    private static final int[] BITS = {8, 16, 32, 64};

    private ShelfEdges() {
    }

    static void run(Check check) {
        atFirst(check);
        rows(check);
        rowsAnew(check);
        lowestBits(check);
        elements(check);
        copies(check);
        copiesOntoThemselves(check);
        copiesOfSorts(check);
        shown(check);
        held(check);
        saysByItsOwnKind(check);
        saysInTheSun(check);
        told(check);
        moves(check);
        noMove(check);
        trace(check);
        image(check);
        imageOfAll(check);
        imageAndShelves(check);
        seed(check);
        status(check);
    }

    private static void atFirst(Check check) {
        check.sentence(1, "No PLACES, no BOTTLES.");
        check.due("PLACES", new PaidInFog().status(0), 0);
        check.due("BOTTLES", new PaidInFog().status(1), 0);
        check.due("no PLACE 0", new PaidInFog().fog(0, 1), -1);
        check.due("no BOTTLE 0", new PaidInFog().bottleOf(0, 0), -1);
        check.due("all FOG", new PaidInFog().status(10), 0);
        check.sentence(1, "HOUR (0 to 23; 0 at first), DAYS (0 at first).");
        check.due("HOUR", new PaidInFog().status(5), 0);
        check.due("DAYS", new PaidInFog().status(6), 0);
        check.sentence(1, "YOU are at a PLACE (0 at first)");
        check.due("YOU", new PaidInFog().status(3), 0);
        check.due("YOU, with PLACES", World.full().status(3), 0);
        check.sentence(1, "SHELVES 0 to 7 hold NOTHING (at first), a ROW, or a PLACE.");
        for (int s = 0; s < 8; s++) {
            check.due("SHELF " + s, new PaidInFog().holds(s), -1);
            check.due("law(" + s + ")", new PaidInFog().law(s), -3);
        }
    }

    private static void rows(Check check) {
        check.sentence(2, "A ROW has a SORT (0 bytes, 1 shorts, 2 ints, 3 longs) and 0 to 160 elements, 0 at first");
        for (int s = 0; s < 8; s++) {
            for (int sort = 0; sort < 4; sort++) {
                for (int n : new int[] {0, 1, 159, 160}) {
                    PaidInFog x = new PaidInFog();
                    check.due("a ROW", x.row(s, sort, n), 1);
                    check.due("its SORT", x.holds(s), 100 + sort);
                    check.due("its last element", x.set(s, n - 1, 5), n == 0 ? -5 : 1);
                    check.due("none behind it", x.set(s, n, 5), -5);
                    check.due("the last one is kept", x.element(s, n - 1), n == 0 ? 0 : 5);
                    check.due("the other SHELVES", x.holds((s + 1) % 8), -1);
                }
            }
        }
        check.bounds("SHELF", World::busy, (x, s) -> x.row(s, 3, 160), 0, 7, -1);
        check.bounds("SORT", World::busy, (x, sort) -> x.row(7, sort, 160), 0, 3, -6);
        for (int n : new int[] {-1, -160, MIN}) {
            check.refused("size " + n, World::busy, x -> x.row(0, 0, n), -4);
        }
        for (int n : new int[] {161, 1000, MAX}) {
            check.refused("size " + n, World::busy, x -> x.row(0, 0, n), -7);
        }
        check.refused("over a place, size 161", World::busy, x -> x.row(2, 0, 161), -7);
    }

    private static void rowsAnew(Check check) {
        check.sentence(2, "0 to 160 elements, 0 at first");
        PaidInFog x = new PaidInFog();
        x.row(3, 3, 160);
        for (int i = 0; i < 160; i++) {
            x.set(3, i, -1 - i);
        }
        check.due("the last", x.element(3, 159), -160);
        x.row(3, 3, 80);
        int left = 0;
        for (int i = 0; i < 160; i++) {
            left += x.element(3, i) != 0 ? 1 : 0;
        }
        check.due("elements of the old ROW", left, 0);
        x.set(3, 79, 7);
        x.show(3, -1);
        check.due("NOTHING has none", x.element(3, 79), 0);
        x.row(3, 0, 160);
        check.due("nor has a ROW anew", x.element(3, 79), 0);
    }

    private static long lowest(long v, int bits) {
        return bits == 64 ? v : v << 64 - bits >> 64 - bits;
    }

    private static void lowestBits(Check check) {
        check.sentence(3, "what is put in keeps its lowest bits");
        for (int sort = 0; sort < 4; sort++) {
            for (int bits = 0; bits < 64; bits++) {
                for (long v : new long[] {(1L << bits) - 1, 1L << bits, (1L << bits) + 1, -(1L << bits)}) {
                    PaidInFog x = new PaidInFog();
                    x.row(0, sort, 1);
                    check.due("set " + v, x.set(0, 0, v), 1);
                    check.due("SORT " + sort + ", " + v, x.element(0, 0), lowest(v, BITS[sort]));
                }
            }
        }
    }

    private static PaidInFog twenty() {
        PaidInFog x = World.alone(World.FIELD, 0, 0);
        World.rowOf(x, 0, 1, 1, 2, 3, 4, 5, 6, 7, 8, 9, 10);
        World.rowOf(x, 1, 1, 11, 12, 13, 14, 15);
        x.show(3, 0);
        x.row(4, 1, 0);
        return x;
    }

    private static void elements(Check check) {
        check.sentence(3, "Element i of the ROW becomes v: 1.");
        check.bounds("element", ShelfEdges::twenty, (x, i) -> x.set(0, i, 77), 0, 9, -5);
        check.bounds("SHELF", ShelfEdges::eightRows, (x, s) -> x.set(s, 1, 77), 0, 7, -1);
        check.refused("a ROW of none", ShelfEdges::twenty, x -> x.set(4, 0, 77), -5);
        for (int at = 0; at < 10; at++) {
            PaidInFog x = twenty();
            x.set(0, at, 77);
            for (int i = 0; i < 10; i++) {
                check.due("element " + i, x.element(0, i), i == at ? 77 : i + 1);
            }
        }
        check.sentence(5, "Element i of the ROW; 0 if there is none (nothing is refused).");
        for (int s : new int[] {MIN, -1, 0, 1, 2, 3, 4, 7, 8, MAX}) {
            for (int i : new int[] {MIN, -1, 0, 4, 5, 9, 10, 159, 160, MAX}) {
                boolean isThere = i >= 0 && (s == 0 && i < 10 || s == 1 && i < 5);
                check.due("element(" + s + ", " + i + ")", twenty().element(s, i), isThere ? 10 * s + i + 1 : 0);
                check.changesNothing("element(" + s + ", " + i + ")", ShelfEdges::twenty, x -> x.element(s, i));
            }
        }
    }

    private static PaidInFog eightRows() {
        PaidInFog x = new PaidInFog();
        for (int s = 0; s < 8; s++) {
            x.row(s, 2, 2);
        }
        return x;
    }

    private static void copies(Check check) {
        check.sentence(4, "Elements i, i + 1, .. of the ROW in SHELF p, n of them, come to elements j, j + 1, .. of "
            + "that in q (as they were ahead): 1.");
        for (int i = -1; i <= 11; i++) {
            for (int j = -1; j <= 6; j++) {
                for (int n = 0; n <= 6; n++) {
                    boolean isThere = i >= 0 && j >= 0 && i + n <= 10 && j + n <= 5;
                    PaidInFog x = twenty();
                    String what = "copy(0, 1, " + i + ", " + j + ", " + n + ")";
                    check.due(what, x.copy(0, 1, i, j, n), isThere ? 1 : -5);
                    for (int at = 0; at < 5; at++) {
                        boolean isCopied = isThere && at >= j && at < j + n;
                        check.due(what + ", element " + at, x.element(1, at), isCopied ? i + at - j + 1 : 11 + at);
                    }
                    check.due(what + ", refused", x.status(15), isThere ? 0 : 1);
                }
            }
        }
        check.refused("an end beyond all", ShelfEdges::twenty, x -> x.copy(0, 1, MAX, 0, 1), -5);
        check.refused("an end beyond all", ShelfEdges::twenty, x -> x.copy(0, 1, 1, 1, MAX), -5);
        check.refused("an end beyond all", ShelfEdges::twenty, x -> x.copy(0, 1, 0, MAX, MAX), -5);
        check.refused("far below 0", ShelfEdges::twenty, x -> x.copy(0, 1, MIN, 0, 1), -5);
        check.refused("far below 0", ShelfEdges::twenty, x -> x.copy(0, 1, 0, MIN, 0), -5);
        check.refused("n far below 0", ShelfEdges::twenty, x -> x.copy(0, 1, 0, 0, MIN), -4);
    }

    private static void copiesOntoThemselves(Check check) {
        check.sentence(4, "(as they were ahead)");
        for (int i = 0; i <= 6; i++) {
            for (int j = 0; j <= 6; j++) {
                PaidInFog x = twenty();
                check.due("onto itself", x.copy(0, 0, i, j, 4), 1);
                for (int at = 0; at < 10; at++) {
                    boolean isCopied = at >= j && at < j + 4;
                    check.due("from " + i + " to " + j + ", element " + at, x.element(0, at),
                        isCopied ? i + at - j + 1 : at + 1);
                }
            }
        }
        PaidInFog whole = new PaidInFog();
        whole.row(0, 3, 160);
        whole.row(7, 3, 160);
        whole.set(0, 0, Long.MIN_VALUE);
        whole.set(0, 159, Long.MAX_VALUE);
        check.due("all of 160", whole.copy(0, 7, 0, 0, 160), 1);
        check.due("the first", whole.element(7, 0), Long.MIN_VALUE);
        check.due("the last", whole.element(7, 159), Long.MAX_VALUE);
        check.due("161 of 160", whole.copy(0, 7, 0, 0, 161), -5);
        check.due("none of none", twenty().copy(4, 4, 0, 0, 0), 1);
        check.due("one of none", twenty().copy(4, 4, 0, 0, 1), -5);
    }

    private static void copiesOfSorts(Check check) {
        check.sentence(4, "-2 also of two SORTS (when both hold something)");
        for (int from = 0; from < 4; from++) {
            for (int to = 0; to < 4; to++) {
                PaidInFog x = new PaidInFog();
                x.row(0, from, 2);
                x.row(1, to, 2);
                check.due("SORT " + from + " to " + to, x.copy(0, 1, 0, 0, 2), from == to ? 1 : -2);
                check.due("SORT " + from + " to NOTHING", x.copy(0, 2, 0, 0, 2), -3);
                check.due("NOTHING to SORT " + to, x.copy(2, 1, 0, 0, 2), -3);
            }
        }
        check.due("NOTHING to itself", new PaidInFog().copy(2, 2, 0, 0, 0), -3);
    }

    private static void shown(Check check) {
        check.sentence(6, "SHELF s holds a PLACE, or NOTHING (place NONE): 1, 0. -1.");
        for (int s = 0; s < 8; s++) {
            for (int place = -1; place < 8; place++) {
                PaidInFog x = World.crowded();
                x.row(s, 0, 3);
                check.due("show over a ROW", x.show(s, place), place == -1 ? 0 : 1);
                check.due("it holds", x.holds(s), place);
                check.due("no refusal", x.status(11), 0);
            }
        }
        check.bounds("SHELF", World::busy, (x, s) -> x.show(s, 6), 0, 7, -1);
        check.bounds("SHELF, for NOTHING", World::busy, (x, s) -> x.show(s, -1), 0, 7, -1);
        check.bounds("PLACE", World::busy, (x, place) -> x.show(5, place), -1, 6, -1);
        check.bounds("PLACE of eight", World::crowded, (x, place) -> x.show(5, place), -1, 7, -1);
        check.bounds("PLACE of none", PaidInFog::new, (x, place) -> x.show(5, place), -1, -1, -1);
    }

    private static void held(Check check) {
        check.sentence(7, "NONE NOTHING, or no such SHELF; a PLACE's number; 100 and the SORT of a ROW.");
        for (int s : new int[] {MIN, -1, 8, MAX}) {
            check.due("holds(" + s + ")", World.busy().holds(s), -1);
            check.changesNothing("holds(" + s + ")", World::busy, x -> x.holds(s));
        }
        PaidInFog x = World.crowded();
        for (int p = 0; p < 8; p++) {
            x.show(p, 7 - p);
        }
        for (int p = 0; p < 8; p++) {
            check.due("SHELF " + p, x.holds(p), 7 - p);
        }
    }

    private static void saysByItsOwnKind(Check check) {
        check.sentence(8, "What says() tells of LEAKS, of the sun and of FOG that goes is by its own KIND, whatever "
            + "the sun and WIND are, twice for LEAKS if the sun is up.");
        for (int hour : new int[] {0, 6, 7, 17, 18, 23}) {
            int times = hour >= 7 && hour <= 17 ? 2 : 1;
            for (int wind = -1; wind <= 1; wind++) {
                for (int fog : new int[] {0, 7, 8, 9, 10, 15, 16, 99}) {
                    for (int a = 0; a <= 9; a += 3) {
                        String what = "HOUR " + hour + ", WIND " + wind + ", FOG " + fog + ", a " + a + ": ";
                        check.due(what + "FIELD", said(0, 0, a, fog, hour, wind), fog);
                        check.due(what + "CELLAR", said(1, 1, a, fog, hour, wind), 2 * times);
                        check.due(what + "BRIDGE", said(2, 2, a, fog, hour, wind), fog / 8);
                        check.due(what + "VAULT", said(3, 3, a, fog, hour, wind), hour < a ? 0 : times);
                        check.due(what + "VAULT as CELLAR", said(3, 1, a, fog, hour, wind), hour < a ? 0 : times);
                        check.due(what + "HILL", said(4, 4, a, fog, hour, wind), 10);
                        check.due(what + "MARSH", said(5, 5, a, fog, hour, wind), fog / 8);
                        check.due(what + "MARSH as BRIDGE", said(5, 2, a, fog, hour, wind), fog / 8);
                        check.due(what + "PEAK", said(6, 6, a, fog, hour, wind), 10 + a);
                        check.due(what + "PEAK as HILL", said(6, 4, a, fog, hour, wind), 10 + a);
                    }
                }
            }
        }
    }

    private static int said(int place, int kind, int a, int fog, int hour, int wind) {
        PaidInFog x = World.alone(place, a, fog);
        x.ask(6, hour);
        x.ask(0, wind);
        x.show(7, 0);
        return x.says(7, kind);
    }

    private static void saysInTheSun(Check check) {
        check.sentence(8, "FIELD its FOG");
        for (int kind = 0; kind < 7; kind++) {
            check.due("KIND " + kind + " as a FIELD", said(kind, 0, 3, 61, 12, 1), 61);
        }
        check.sentence(8, "-1 SHELF, KIND; -2 also a PLACE of another KIND; -3.");
        check.bounds("SHELF", World::busy, (x, s) -> s == 0 || s == 7 ? 1 : x.says(s, 0), 0, 7, -1);
        check.bounds("KIND", () -> shelved(6), (x, kind) -> x.says(0, kind), 0, 6, -1);
        check.bounds("KIND for NOTHING", () -> shelved(6), (x, kind) -> kind == 0 || kind == 6 ? 1 : x.says(1, kind), 0,
            6, -1);
        for (int kind = 0; kind < 7; kind++) {
            int as = kind;
            check.refused("NOTHING as " + kind, World::busy, x -> x.says(4, as), -3);
            check.refused("a ROW as " + kind, World::busy, x -> x.says(0, as), -2);
        }
    }

    private static PaidInFog shelved(int kind) {
        PaidInFog x = World.alone(kind, 3, 50);
        x.show(0, 0);
        return x;
    }

    private static void told(Check check) {
        check.sentence(10, "-5: no such one, another what.");
        check.bounds("PLACE", World::busy, (x, p) -> x.placeOf(p, 0), 0, 6, -5);
        check.bounds("PLACE of eight", World::crowded, (x, p) -> x.placeOf(p, 4), 0, 7, -5);
        check.bounds("what", World::busy, (x, what) -> x.placeOf(6, what), 0, 4, -5);
        check.refused("no PLACES", PaidInFog::new, x -> x.placeOf(0, 0), -5);
        check.sentence(10, "3 BOTTLES that lie there (bits)");
        PaidInFog x = World.crowded();
        for (int p = 0; p < 8; p++) {
            check.due("PLACE " + p, x.placeOf(p, 3), p < 4 ? (1 << p) + (1 << p + 8) : 1 << p);
        }
        check.sentence(14, "STRENGTH (0; 0 EMPTY), CLASS (1), where (2: the PLACE, 100 YOU, 200 EMPTY). -1; -5 another "
            + "what.");
        check.bounds("what", World::busy, (y, what) -> y.bottleOf(3, what), 0, 2, -5);
        check.bounds("what of an EMPTY one", World::busy, (y, what) -> y.bottleOf(1, what), 0, 2, -5);
        check.refused("no BOTTLES", World::full, y -> y.bottleOf(0, 0), -1);
    }

    private static int drifts(int kind, int m, int k, int x) {
        return switch (kind) {
            case World.CELLAR, World.VAULT -> x + m + k;
            case World.HILL -> x;
            case World.PEAK -> 2 * x;
            default -> x + m;
        };
    }

    private static int thins(int kind, int m, int k, int x) {
        return switch (kind) {
            case World.BRIDGE, World.MARSH -> 6 * drifts(kind, m, k, x);
            case World.VAULT -> 2 * drifts(kind, m, k, x + 1);
            case World.PEAK -> 2 * drifts(kind, m, k, x - k);
            default -> 2 * drifts(kind, m, k, x);
        };
    }

    private static int leaks(int kind, int m, int k, int x) {
        int plain = thins(kind, m, k, x) ^ drifts(kind, m, k, x - k);
        return switch (kind) {
            case World.HILL, World.PEAK -> -plain;
            case World.MARSH -> plain ^ 5;
            default -> plain;
        };
    }

    private static void moves(Check check) {
        check.sentence(40, "MOVES of PLACES, with x (wrapping): 0 drifts, 1 thins, 2 leaks; m the number, k its a.");
        int[] inputs = {0, 1, -1, 2, 3, 4, 5, 6, 7, 100, -100, MAX, MAX - 1, MIN, MIN + 1, 1 << 30, -(1 << 30) - 1,
            715827883};
        for (int kind = 0; kind < 7; kind++) {
            for (int m = 0; m < 8; m += m == 1 ? 6 : 1) {
                for (int k : new int[] {0, 1, 5, 9}) {
                    PaidInFog y = World.fields(new int[m]);
                    y.place(kind, k, 50);
                    for (int x : inputs) {
                        String what = "KIND " + kind + ", m " + m + ", k " + k + ", x " + x;
                        check.due("drifts, " + what, y.act(m, 0, x), drifts(kind, m, k, x));
                        check.due("thins, " + what, y.act(m, 1, x), thins(kind, m, k, x));
                        check.due("leaks, " + what, y.act(m, 2, x), leaks(kind, m, k, x));
                    }
                }
            }
        }
    }

    private static void noMove(Check check) {
        check.sentence(40, "0, and no TRACE then: no such PLACE, move.");
        int[][] none = {{7, 0}, {8, 1}, {-1, 2}, {0, 3}, {0, -1}, {6, 3}, {7, 3}, {MIN, 0}, {MAX, 0}, {0, MIN},
            {0, MAX}};
        for (int[] at : none) {
            PaidInFog x = World.busy();
            check.due("bodies ahead of it", x.status(19), 10);
            check.due("act(" + at[0] + ", " + at[1] + ", 5)", x.act(at[0], at[1], 5), 0);
            check.due("THE TRACE", x.trace(0), -1);
            check.due("bodies", x.status(19), 0);
            check.due("refusals -1", x.status(11), 0);
            check.due("refusals -5", x.status(15), 1);
            check.due("refusals -6", x.status(16), 1);
        }
        for (int p = 0; p < 8; p++) {
            for (int move : new int[] {-4, -3, -2, -1, 3, 4, 5, 6}) {
                PaidInFog x = World.crowded();
                x.act(6, 2, 1);
                check.due("act(" + p + ", " + move + ", 5)", x.act(p, move, 5), 0);
                check.due("bodies", x.status(19), 0);
                check.due("THE TRACE", x.trace(0), -1);
            }
        }
        check.due("PLACE 7 of eight", World.crowded().act(7, 0, 5), 12);
        check.due("no PLACES", new PaidInFog().act(0, 0, 5), 0);
    }

    private static void trace(Check check) {
        check.sentence(41, "THE TRACE's i-th body. NONE: none such.");
        PaidInFog x = World.busy();
        int[] due = {50, 12, 71, 11, 70, 51, 10, 70, 51, 10};
        for (int i = 0; i < due.length; i++) {
            check.due("body " + i, x.trace(i), due[i]);
        }
        for (int i : new int[] {MIN, -1, 10, 11, 19, 20, 21, MAX}) {
            check.due("trace(" + i + ")", x.trace(i), -1);
        }
        check.due("at first", new PaidInFog().trace(0), -1);
        check.sentence(41, "in the order in which they began; the first 20 are kept");
        for (int p = 0; p < 8; p++) {
            for (int move = 0; move < 3; move++) {
                PaidInFog y = World.crowded();
                y.act(p, move, 5);
                int ran = y.status(19);
                for (int i = 0; i < 20; i++) {
                    check.due("kept, body " + i + " of " + ran, y.trace(i) != -1 ? 1 : 0, i < ran ? 1 : 0);
                }
            }
        }
        check.sentence(41, "the bodies that ran in the latest act()");
        x.act(0, 0, 1);
        check.due("of the latest", x.trace(0), 10);
        check.due("no longer", x.trace(1), -1);
        check.due("how many", x.status(19), 1);
        x.does(0);
        x.image();
        x.restore();
        check.due("other calls change nothing", x.trace(0), 10);
    }

    private static void image(Check check) {
        check.sentence(43, "-6 there is none.");
        check.refused("no IMAGE", () -> World.fields(5), PaidInFog::restore, -6);
        check.refused("no IMAGE", PaidInFog::new, PaidInFog::restore, -6);
        check.sentence(42, "is taken: how many PLACES.");
        for (int places = 0; places <= 8; places++) {
            PaidInFog x = World.fields(new int[places]);
            check.due("an IMAGE", x.image(), places);
            x.place(0, 0, 0);
            check.due("restored", x.restore(), places);
            check.due("again", x.restore(), places);
            check.due("PLACES", x.status(0), places);
            check.due("one may be put behind", x.place(0, 0, 0), places < 8 ? places : -7);
        }
    }

    /** A full valley, in which nothing is as at first. */
    private static PaidInFog all() {
        PaidInFog x = World.crowded();
        x.does(6);
        x.does(2);
        x.does(6);
        x.does(4);
        int[][] asked = {{0, -1}, {1, 5}, {2, 20}, {3, 11}, {4, 22}, {5, 33}, {6, 23}};
        for (int[] at : asked) {
            x.ask(at[0], at[1]);
        }
        x.does(0);
        x.seed(-5);
        return x;
    }

    private static void imageOfAll(Check check) {
        check.sentence(43, "THE IMAGE of all but SHELVES (and THE IMAGE, REFUSALS, the FAULT, THE TRACE)");
        PaidInFog x = all();
        x.image();
        PaidInFog y = all();
        y.image();
        int[][] asked = {{0, 1}, {1, 6}, {2, 21}, {3, 12}, {4, 23}, {5, 34}, {6, 4}};
        for (int[] at : asked) {
            x.ask(at[0], at[1]);
        }
        for (int p = 0; p < 8; p++) {
            x.fog(p, 50 + p);
        }
        x.season(200);
        x.does(3);
        check.due("restored", x.restore(), 8);
        check.same("all", Snapshot.of(x), Snapshot.of(y));
        PaidInFog z = all();
        z.image();
        z.act(6, 2, 1);
        World.law(z, "sun 19");
        z.each(5);
        z.show(0, 7);
        z.restore();
        check.due("THE TRACE stays", z.status(19), 10);
        check.due("the FAULT stays", z.fault(), 4);
        check.due("REFUSALS stay", z.status(15), 1);
        check.due("REFUSALS stay", z.status(16), 1);
        check.due("SHELVES stay", z.holds(0), 7);
        check.due("SHELVES stay", z.element(7, 0), 's');
    }

    private static void imageAndShelves(Check check) {
        check.sentence(43, "SHELVES with PLACES hold those of these numbers, or NOTHING: how many PLACES.");
        for (int places = 0; places < 8; places++) {
            PaidInFog x = World.fields(new int[places]);
            x.image();
            for (int p = places; p < 8; p++) {
                x.place(World.HILL, 0, 0);
            }
            for (int s = 0; s < 8; s++) {
                x.show(s, s);
            }
            x.restore();
            for (int s = 0; s < 8; s++) {
                check.due("SHELF " + s + ", " + places + " PLACES", x.holds(s), s < places ? s : -1);
            }
            for (int s = 0; s < 8; s++) {
                x.row(s, s % 4, 1);
                x.set(s, 0, s);
            }
            x.restore();
            for (int s = 0; s < 8; s++) {
                check.due("the ROW in SHELF " + s, x.holds(s), 100 + s % 4);
                check.due("its element", x.element(s, 0), s);
            }
        }
    }

    private static void seed(Check check) {
        check.sentence(39, "SEED becomes v: what it was (nothing is refused).");
        PaidInFog x = new PaidInFog();
        int[] seeds = {1, 0, -1, MAX, MIN, 5};
        for (int i = 1; i < seeds.length; i++) {
            check.due("what it was", x.seed(seeds[i]), seeds[i - 1]);
            check.due("what it is", x.status(18), seeds[i]);
        }
        for (int v : seeds) {
            check.taken("seed " + v, World::busy, y -> y.seed(v));
        }
    }

    private static void status(Check check) {
        check.sentence(44, "NONE for another what.");
        for (int what : new int[] {MIN, -1, 21, 22, 100, MAX}) {
            check.due("status(" + what + ")", all().status(what), -1);
            check.changesNothing("status(" + what + ")", World::busy, x -> x.status(what));
        }
        check.sentence(44, "0 PLACES, 1 BOTTLES (EMPTY ones too), 2 that YOU carry");
        PaidInFog x = all();
        int[] due = {8, 12, 1, 1, 9, 0, 1, 0, 5, 20};
        for (int what = 0; what < due.length; what++) {
            check.due("status(" + what + ")", x.status(what), due[what]);
        }
        int sum = 0;
        for (int p = 0; p < 8; p++) {
            sum += x.placeOf(p, 2);
        }
        check.due("all FOG", x.status(10), sum);
        check.due("SEED", x.status(18), -5);
        check.due("the sun", x.status(20), 0);
    }
}
