/** Promises 31 to 44: told days, whose purse it is, what comes to pass in truth, moves, the image. */
final class TruthTests {
    private static final int MAX = Integer.MAX_VALUE;
    private static final int MIN = Integer.MIN_VALUE;

    private interface Day {
        int of(PaidInFog x, int s, int n);
    }

    private TruthTests() {
    }

    static void run(Check check) {
        judge(check);
        told(check);
        done(check);
        dayRefused(check);
        worthAndEach(check);
        richest(check);
        doesWalkAndGather(check);
        doesSpend(check);
        doesPutAndTake(check);
        doesClock(check);
        doesRefused(check);
        season(check);
        seed(check);
        act(check);
        actOfNothing(check);
        trace(check);
        image(check);
        restoreShelves(check);
        status(check);
        statusOfRefusals(check);
    }

    /** A field and a cellar; shelf 0 a day, 1 a wrong one in longs, 2 a place, 3 nothing, 4 a row of 160. */
    private static PaidInFog days() {
        PaidInFog x = World.fields(90);
        x.place(World.CELLAR, 0, 0);
        World.rowOf(x, 0, 0, 1, 4, 1, 1, 2);
        World.rowOf(x, 1, 3, (1L << 32) + 1, 4, 4, 1);
        x.show(2, 1);
        x.row(4, 0, 160);
        World.rowOf(x, 5, 2, 1, -1);
        World.rowOf(x, 6, 0, 1, 7);
        x.image();
        return x;
    }

    private static void judge(Check check) {
        check.promise(31);
        PaidInFog x = days();
        check.due("a day that may be", x.judge(0, 5), -1);
        check.due("no act at all", x.judge(1, 0), -1);
        check.due("by its first two", x.judge(1, 2), -1);
        check.due("nothing to spend", x.judge(1, 4), 2);
        check.due("60 hours", x.judge(4, 60), -1);
        check.due("act -1", x.judge(5, 2), 1);
        check.due("act 7", x.judge(6, 2), 1);
        check.changesNothing("judge", TruthTests::days, y -> y.judge(0, 5));
        check.refused("n 61", TruthTests::days, y -> y.judge(4, 61), -16, -6);
        check.refused("n 160", TruthTests::days, y -> y.judge(4, 160), -16, -6);
        refusesNoDay(check, PaidInFog::judge, -10);
    }

    private static void told(Check check) {
        check.promise(32);
        PaidInFog x = days();
        int[] coins = {0, 0, 9, 9, 9, 9};
        int[] carried = {0, 1, 0, 1, 2, 2};
        int[] strengths = {0, 87, 0, 77, 74 + 67, 71 + 64};
        for (int n = 0; n <= 5; n++) {
            check.due("COINS behind " + n, x.told(0, n, 0), coins[n]);
            check.due("carried behind " + n, x.told(0, n, 1), carried[n]);
            check.due("STRENGTH behind " + n, x.told(0, n, 2), strengths[n]);
            check.due("HOUR behind " + n, x.told(0, n, 3), n);
        }
        check.due("HOUR behind 60", x.told(4, 60, 3), 12);
        check.changesNothing("told", TruthTests::days, y -> y.told(0, 5, 2));
        check.refused("what 4", TruthTests::days, y -> y.told(0, 1, 4), -5);
        check.refused("what -1", TruthTests::days, y -> y.told(1, 3, -1), -5);
        check.refused("n 61 and what", TruthTests::days, y -> y.told(4, 61, 4), -5);
        check.refused("a wrong day", TruthTests::days, y -> y.told(1, 3, 0), -6);
        check.refused("n 61", TruthTests::days, y -> y.told(4, 61, 0), -6);
        check.refused("what, n below 0", TruthTests::days, y -> y.told(0, -1, 4), -4);
        refusesNoDay(check, (y, s, n) -> y.told(s, n, 1), 0);
    }

    private static void done(Check check) {
        check.promise(33);
        PaidInFog x = days();
        check.due("no act", x.done(0, 0), 0);
        check.due("HOUR", x.status(5), 0);
        check.due("COINS", x.done(0, 5), 9);
        check.due("HOUR", x.status(5), 5);
        check.due("YOU", x.status(3), 1);
        check.due("carried", x.status(2), 2);
        check.due("FOG", x.placeOf(0, 2), 60);
        check.due("two bottles", x.status(1), 2);
        check.due("the first again", x.bottleOf(0, 0), 71);
        check.due("the second", x.bottleOf(1, 0), 64);
        check.refused("a wrong day", TruthTests::days, y -> y.done(1, 4), -6);
        check.refused("n 61", TruthTests::days, y -> y.done(4, 61), -6);
        refusesNoDay(check, PaidInFog::done, 0);
    }

    /** What all calls that want a day refuse. */
    private static void refusesNoDay(Check check, Day day, int apart) {
        check.refused("shelf -1", TruthTests::days, y -> day.of(y, -1, -1), -1 + apart, -1);
        check.refused("shelf 8", TruthTests::days, y -> day.of(y, 8, 0), -1 + apart, -1);
        check.refused("a place", TruthTests::days, y -> day.of(y, 2, -1), -2 + apart, -2);
        check.refused("nothing", TruthTests::days, y -> day.of(y, 3, -1), -3 + apart, -3);
        check.refused("n -1", TruthTests::days, y -> day.of(y, 0, -1), -4 + apart, -4);
        check.refused("n MIN", TruthTests::days, y -> day.of(y, 0, MIN), -4 + apart, -4);
        check.refused("fewer elements", TruthTests::days, y -> day.of(y, 0, 6), -5 + apart, -5);
        check.refused("n MAX", TruthTests::days, y -> day.of(y, 0, MAX), -5 + apart, -5);
    }

    private static void dayRefused(Check check) {
        check.promise(31);
        check.refused("fewer elements, ahead of n above 60", TruthTests::days, y -> y.judge(0, 61), -15, -5);
        check.promise(32);
        check.refused("fewer elements, ahead of a wrong day", TruthTests::days, y -> y.told(1, 5, 0), -5);
        check.promise(33);
        check.refused("fewer elements, ahead of a wrong day", TruthTests::days, y -> y.done(1, 5), -5);
    }

    private static PaidInFog cellarOf(int... strengths) {
        PaidInFog x = World.alone(World.CELLAR, 0, 0);
        for (int strength : strengths) {
            x.bottle(0, strength);
        }
        return x;
    }

    private static void worthAndEach(Check check) {
        PaidInFog x = cellarOf(1, 9, 10, 39, 40, 69, 70, 99, 2, 80);
        check.promise(34);
        check.due("all", x.worth(), 2 * 1 + 2 * 4 + 3 * 9);
        check.promise(35);
        int[] each = {3, 2, 2, 3};
        for (int rank = 0; rank < 4; rank++) {
            check.due("each(" + rank + ")", x.each(rank), each[rank]);
        }
        x.does(6);
        check.due("two are empty", x.each(0), 9 - 7);
        check.due("carried ones too", x.each(3), 2);
        check.promise(34);
        check.due("carried ones too", x.worth(), 2 * 9 + 2 * 4 + 2);
        x.ask(5, 50);
        check.due("by PRICES", x.worth(), 2 * 50 + 2 * 4 + 2);
        check.due("without COINS", x.does(4), 50);
        check.due("without COINS", x.worth(), x.each(3) * 50 + x.each(2) * 4 + x.each(1));
        check.changesNothing("worth", World::busy, PaidInFog::worth);
        check.promise(35);
        check.due("none", new PaidInFog().each(0), 0);
        check.changesNothing("each", World::busy, y -> y.each(2));
        check.refused("each(-1)", World::busy, y -> y.each(-1), -5);
        check.refused("each(4)", World::busy, y -> y.each(4), -5);
    }

    private static void richest(Check check) {
        check.promise(36);
        check.due("no places", new PaidInFog().richest(), -1);
        PaidInFog x = World.fields(0, 0, 0);
        check.due("no bottles", x.richest(), -1);
        x.bottle(2, 8);
        check.due("a bottle of no worth", x.richest(), 2);
        x.bottle(1, 12);
        check.due("one of 1", x.richest(), 1);
        x.bottle(2, 15);
        check.due("as much: the first", x.richest(), 1);
        x.bottle(2, 15);
        check.due("two of 1", x.richest(), 2);
        x.bottle(0, 40);
        check.due("one of 4", x.richest(), 0);
        x.does(6);
        check.due("carried it lies nowhere", x.richest(), 2);
        check.changesNothing("richest", World::busy, PaidInFog::richest);
        check.due("two lie, one is carried", World.busy().richest(), 3);
        PaidInFog y = World.fields(0, 0);
        y.bottle(1, 50);
        y.bottle(0, 5);
        check.due("one of 4, the first bottle", y.richest(), 1);
    }

    private static void doesWalkAndGather(Check check) {
        check.promise(37);
        PaidInFog x = World.fields(50, 50);
        check.due("WAIT", x.does(0), 0);
        check.due("HOUR", x.status(5), 1);
        check.due("ON", x.does(2), 0);
        check.due("YOU", x.status(3), 1);
        check.due("GATHER", x.does(1), 0);
        check.due("FOG here", x.placeOf(1, 2), 40);
        check.due("FOG there", x.placeOf(0, 2), 50);
        check.due("of a STRENGTH as FOG is ahead, less 3", x.bottleOf(0, 0), 47);
        check.due("carried", x.bottleOf(0, 2), 100);
        check.due("BACK", x.does(3), 0);
        check.due("YOU", x.status(3), 0);
        check.due("carried along", x.bottleOf(0, 0), 44);
        PaidInFog y = World.busy();
        y.does(1);
        check.due("the first empty one", y.bottleOf(1, 2), 100);
        check.due("no new one", y.status(1), 4);
        y.does(1);
        check.due("a new one", y.bottleOf(4, 2), 100);
        x.ask(6, 7);
        x.does(1);
        check.due("gathered in the sun", x.bottleOf(1, 0), 44);
        check.due("FOG less 10, less 5", x.placeOf(0, 2), 35);
    }

    private static void doesSpend(Check check) {
        check.promise(37);
        PaidInFog x = cellarOf(60, 90, 90, 20);
        for (int i = 0; i < 4; i++) {
            x.does(6);
        }
        check.due("the strongest", x.does(4), 9);
        check.due("of several the first: of those taken later less leaked", x.bottleOf(2, 2), 200);
        check.due("STRENGTH of an empty one", x.bottleOf(2, 0), 0);
        check.due("the next", x.does(4), 18);
        check.due("the next", x.does(4), 22);
        check.due("carried", x.status(2), 1);
        PaidInFog y = World.fields(90, 0);
        y.bottle(0, 90);
        y.bottle(0, 90);
        y.does(6);
        check.due("of several the first", y.bottleOf(0, 2), 100);
        y.bottle(0, 87);
        y.does(6);
        check.due("87 of 87 and 86", y.bottleOf(2, 2), 100);
        check.due("84 and 84", y.bottleOf(0, 0) - y.bottleOf(2, 0), 0);
        y.does(4);
        check.due("of several the first", y.bottleOf(0, 2), 200);
        check.due("the other", y.bottleOf(2, 2), 100);
    }

    private static void doesPutAndTake(Check check) {
        check.promise(37);
        PaidInFog x = cellarOf(30, 50);
        x.place(World.HILL, 0, 0);
        x.does(6);
        check.due("the strongest", x.bottleOf(1, 2), 100);
        check.due("carried it leaks 3", x.bottleOf(1, 0), 47);
        check.due("in the cellar 2", x.bottleOf(0, 0), 28);
        x.does(6);
        x.does(2);
        check.due("carried", x.status(2), 2);
        x.does(5);
        check.due("all lie here", x.placeOf(1, 3), 3);
        check.due("and leak by where they are", x.bottleOf(1, 0), 47 - 3 - 3 - 6);
        check.due("carried", x.status(2), 0);
    }

    private static void doesClock(Check check) {
        check.promise(37);
        PaidInFog x = new PaidInFog();
        for (int i = 0; i < 23; i++) {
            x.does(0);
        }
        check.due("HOUR", x.status(5), 23);
        check.due("DAYS", x.status(6), 0);
        x.does(0);
        check.due("HOUR", x.status(5), 0);
        check.due("DAYS", x.status(6), 1);
    }

    private static void doesRefused(Check check) {
        check.promise(37);
        check.refused("act 7", World::busy, y -> y.does(7), -6);
        check.refused("act -1", World::busy, y -> y.does(-1), -6);
        check.refused("act MIN", World::busy, y -> y.does(MIN), -6);
        check.refused("BACK from the first", World::busy, y -> y.does(3), -6);
        check.refused("TAKE where nothing lies", World::busy, y -> y.does(6), -6);
        check.refused("no places", PaidInFog::new, y -> y.does(1), -6);
        check.refused("ON", PaidInFog::new, y -> y.does(2), -6);
        check.refused("SPEND", PaidInFog::new, y -> y.does(4), -6);
        check.refused("PUT", PaidInFog::new, y -> y.does(5), -6);
        check.refused("TAKE", PaidInFog::new, y -> y.does(6), -6);
    }

    private static void season(Check check) {
        check.promise(38);
        PaidInFog x = World.busy();
        PaidInFog y = World.busy();
        int seed = 77;
        for (int i = 0; i < 30; i++) {
            seed = seed * 1103515245 + 12345;
            y.ask(0, (seed >>> 16) % 3 - 1);
            int may = y.may();
            y.does((may & 16) != 0 ? 4 : (may & 2) != 0 ? 1 : 0);
        }
        y.seed(seed);
        check.due("COINS more", x.season(30), y.status(4));
        check.same("all", Snapshot.of(x), Snapshot.of(y));
        PaidInFog z = spentOnce();
        int was = z.status(4);
        check.due("COINS more, not COINS", z.season(1), 0);
        check.due("COINS", z.status(4), was);
        check.due("200 hours", z.season(200), z.status(4) - was);
        check.due("are 8 days and 8 hours, and 3", z.status(6) * 24 + z.status(5), 203);
        check.refused("n 0", World::busy, w -> w.season(0), -6);
        check.refused("n -1", World::busy, w -> w.season(-1), -6);
        check.refused("n 201", World::busy, w -> w.season(201), -6);
    }

    private static PaidInFog spentOnce() {
        PaidInFog x = World.fields(90);
        x.does(1);
        x.does(4);
        return x;
    }

    private static void seed(Check check) {
        check.promise(39);
        PaidInFog x = World.fields(9);
        check.due("at first", x.seed(MIN), 1);
        check.due("what it was", x.seed(5), MIN);
        x.season(1);
        check.due("a draw", x.seed(0), 5 * 1103515245 + 12345);
        check.due("status(18)", x.status(18), 0);
    }

    private static void act(Check check) {
        check.promise(40);
        int[][] due = {{5, 10, 9}, {6, 12, 10}, {7, 42, 44}, {10, 22, 30}, {5, 10, -8}, {10, 60, 63}, {10, 0, 0}};
        PaidInFog x = World.ofAllKinds();
        for (int p = 0; p < due.length; p++) {
            for (int move = 0; move < 3; move++) {
                check.due("act(" + p + ", " + move + ", 5)", x.act(p, move, 5), due[p][move]);
            }
        }
        check.due("a peak thins 9", x.act(6, 1, 9), 16);
        check.due("a peak leaks 9", x.act(6, 2, 9), -24);
        check.due("wrapping", x.act(0, 1, MAX), -2);
        check.due("wrapping", x.act(1, 0, MAX), MIN);
        check.due("wrapping", x.act(5, 1, MIN), 30);
        PaidInFog y = new PaidInFog();
        y.place(World.FIELD, 0, 0);
        y.place(World.PEAK, 3, 0);
        check.due("m and k", y.act(1, 0, 1), 2);
        check.due("m and k", y.act(1, 1, 1), -8);
    }

    private static void actOfNothing(Check check) {
        check.promise(40);
        int[][] none = {{7, 0}, {-1, 0}, {0, 3}, {0, -1}, {MAX, MAX}, {MIN, MIN}};
        for (int[] at : none) {
            PaidInFog x = World.ofAllKinds();
            x.act(6, 2, 1);
            check.due("act(" + at[0] + ", " + at[1] + ", 1)", x.act(at[0], at[1], 1), 0);
            check.due("no trace", x.trace(0), -1);
            check.due("no bodies", x.status(19), 0);
            for (int what = 11; what <= 17; what++) {
                check.due("no refusal " + what, x.status(what), 0);
            }
        }
    }

    private static void trace(Check check) {
        check.promise(41);
        int[][][] due = {
            {{10}, {11, 10}, {12, 11, 10, 10}},
            {{20, 10}, {11, 20, 10}, {12, 11, 20, 10, 20, 10}},
            {{10}, {30, 11, 10}, {12, 30, 11, 10, 10}},
            {{20, 10}, {40, 11, 20, 10}, {12, 40, 11, 20, 10, 20, 10}},
            {{51, 10}, {11, 51, 10}, {50, 12, 11, 51, 10, 51, 10}},
            {{10}, {30, 11, 10}, {60, 12, 30, 11, 10, 10}},
            {{70, 51, 10}, {71, 11, 70, 51, 10}, {50, 12, 71, 11, 70, 51, 10, 70, 51, 10}}};
        for (int p = 0; p < due.length; p++) {
            for (int move = 0; move < 3; move++) {
                PaidInFog x = World.ofAllKinds();
                x.act(6, 2, 1);
                x.act(p, move, 5);
                int[] bodies = due[p][move];
                check.due("bodies of " + p + ", " + move, x.status(19), bodies.length);
                for (int i = 0; i < bodies.length; i++) {
                    check.due("body " + i + " of " + p + ", " + move, x.trace(i), bodies[i]);
                }
                check.due("none behind", x.trace(bodies.length), -1);
            }
        }
        int[] none = {-1, 10, 19, 20, MAX, MIN};
        for (int i : none) {
            check.due("trace(" + i + ")", World.busy().trace(i), -1);
            check.changesNothing("trace(" + i + ")", World::busy, y -> y.trace(i));
        }
    }

    /** Changes all that an image holds. */
    private static void changeAll(PaidInFog x) {
        x.place(World.HILL, 1, 5);
        x.fog(0, 1);
        x.bottle(4, 98);
        x.does(2);
        x.does(0);
        x.does(4);
        x.does(5);
        x.ask(0, -1);
        x.ask(1, 3);
        x.ask(2, 4);
        for (int what = 3; what <= 5; what++) {
            x.ask(what, 40 + what);
        }
        x.season(30);
    }

    private static void image(Check check) {
        check.promise(42);
        PaidInFog x = World.busy();
        check.due("image()", x.image(), 7);
        changeAll(x);
        check.promise(43);
        check.due("restore()", x.restore(), 7);
        check.same("as it was", Snapshot.of(x), Snapshot.of(pictured()));
        PaidInFog z = pictured();
        changeAll(z);
        z.restore();
        changeAll(z);
        check.due("a second time", z.restore(), 7);
        check.same("as it was", Snapshot.of(z), Snapshot.of(pictured()));
        check.promise(42);
        PaidInFog w = World.fields(1);
        w.image();
        w.place(0, 0, 2);
        check.due("a later image", w.image(), 2);
        w.place(0, 0, 3);
        check.due("holds for the ones before", w.restore(), 2);
        check.due("an image of nothing", new PaidInFog().image(), 0);
        check.changesNothing("an image twice", TruthTests::pictured, PaidInFog::image);
    }

    private static PaidInFog pictured() {
        PaidInFog x = World.busy();
        x.image();
        return x;
    }

    private static void restoreShelves(Check check) {
        check.promise(43);
        PaidInFog x = World.fields(10, 20);
        x.image();
        x.place(0, 0, 30);
        x.show(1, 1);
        x.show(2, 0);
        x.show(0, 2);
        x.show(6, 2);
        World.rowOf(x, 3, 1, 66);
        World.law(x, "sun 19");
        x.act(0, 0, 1);
        x.each(9);
        check.due("restore()", x.restore(), 2);
        check.due("a place that is there", x.holds(2), 0);
        check.due("another", x.holds(1), 1);
        check.due("one that is not", x.holds(0), -1);
        check.due("again", x.holds(6), -1);
        check.due("a row", x.element(3, 0), 66);
        check.due("the FAULT stays", x.fault(), 4);
        check.due("THE TRACE stays", x.trace(0), 10);
        check.due("refusals stay", x.status(15), 1);
        check.due("refusals stay", x.status(16), 1);
        PaidInFog y = new PaidInFog();
        y.image();
        y.place(0, 0, 30);
        y.bottle(0, 50);
        y.does(6);
        y.show(5, 0);
        check.due("to no places", y.restore(), 0);
        check.due("no bottles", y.status(1), 0);
        check.due("nothing", y.holds(5), -1);
        check.refused("there is none", PaidInFog::new, PaidInFog::restore, -6);
    }

    private static void status(Check check) {
        check.promise(44);
        PaidInFog x = World.busy();
        x.does(2);
        x.does(1);
        x.ask(6, 23);
        x.does(0);
        x.ask(6, 5);
        x.ask(1, 6);
        x.ask(2, 21);
        int sum = 0;
        for (int p = 0; p < 7; p++) {
            sum += x.placeOf(p, 2);
        }
        int[][] due = {{0, 7}, {1, 4}, {2, 2}, {3, 1}, {4, 0}, {5, 5}, {6, 1}, {7, 2}, {8, 6}, {9, 21}, {10, sum},
            {18, 77}, {19, 10}, {20, 0}, {21, -1}, {-1, -1}, {MAX, -1}, {MIN, -1}};
        for (int[] at : due) {
            check.due("status(" + at[0] + ")", x.status(at[0]), at[1]);
        }
        x.ask(6, 6);
        check.due("the sun is up", x.status(20), 1);
        x.ask(6, 17);
        check.due("the sun is up", x.status(20), 1);
        x.ask(6, 18);
        check.due("the sun is down", x.status(20), 0);
        x.ask(1, 18);
        check.due("never up", x.status(20), 0);
        check.due("COINS", spentOnce().status(4), 9);
        check.changesNothing("status(21)", World::busy, y -> y.status(21));
    }

    private static void statusOfRefusals(Check check) {
        check.promise(44);
        PaidInFog x = World.full();
        x.row(1, 0, 1);
        for (int number = 1; number <= 7; number++) {
            for (int i = 0; i < number; i++) {
                refuse(x, number);
            }
        }
        for (int number = 1; number <= 7; number++) {
            check.due("refusals -" + number, x.status(10 + number), number);
        }
        x.lasts(0);
        x.judge(1, 2);
        x.dear(49);
        check.due("-11 is counted as -1", x.status(11), 2);
        check.due("-15 is counted as -5", x.status(15), 6);
        check.due("-16 is counted as -6", x.status(16), 7);
    }

    private static void refuse(PaidInFog x, int number) {
        switch (number) {
            case 1 -> x.row(8, 0, 0);
            case 2 -> x.says(1, 0);
            case 3 -> x.law(0);
            case 4 -> x.row(0, 0, -1);
            case 5 -> x.each(4);
            case 6 -> x.does(9);
            default -> x.place(0, 0, 0);
        }
    }
}
