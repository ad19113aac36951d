/** Promises 17 to 24 and 30: what may be, and what comes of waiting. */
final class OutlookTests {
    private static final int MAX = Integer.MAX_VALUE;
    private static final int MIN = Integer.MIN_VALUE;

    private OutlookTests() {
    }

    static void run(Check check) {
        mayWalk(check);
        mayGather(check);
        maySpendPutTake(check);
        thickBySun(check);
        thickByWind(check);
        thickInOrder(check);
        thickRefused(check);
        strength(check);
        strengthInTime(check);
        worthIn(check);
        thickest(check);
        where(check);
        lasts(check);
        keep(check);
        tells(check);
        tellsRefused(check);
    }

    private static void mayWalk(Check check) {
        check.promise(17);
        check.due("no places", new PaidInFog().may(), 1);
        PaidInFog x = World.fields(5, 5, 5);
        check.due("at the first", x.may(), 1 + 4);
        x.does(2);
        check.due("between", x.may(), 1 + 4 + 8);
        x.does(2);
        check.due("at the last", x.may(), 1 + 8);
        check.changesNothing("may()", World::busy, PaidInFog::may);
    }

    private static void mayGather(Check check) {
        check.promise(17);
        check.due("fog 10", World.fields(10).may(), 1 + 2);
        check.due("fog 9", World.fields(9).may(), 1);
        check.due("fog elsewhere", World.fields(9, 99).may(), 1 + 4);
        PaidInFog x = World.fields(99);
        for (int i = 0; i < 5; i++) {
            x.does(1);
        }
        check.due("five carried", x.may(), 1 + 2 + 16 + 32);
        x.does(1);
        x.bottle(0, 50);
        check.due("six carried", x.may(), 1 + 16 + 32);
        x = World.allBottles();
        check.due("twelve bottles", x.may(), 1 + 4 + 64);
        x.does(6);
        x.does(4);
        check.due("one of twelve empty", x.may(), 1 + 2 + 4 + 64);
    }

    private static void maySpendPutTake(Check check) {
        check.promise(17);
        PaidInFog x = World.fields(0, 0);
        x.bottle(1, 50);
        check.due("a bottle elsewhere", x.may(), 1 + 4);
        x.bottle(0, 23);
        check.due("a bottle here", x.may(), 1 + 4 + 64);
        x.does(6);
        check.due("carried", x.may(), 1 + 4 + 16 + 32);
        x.ask(6, 8);
        check.due("below TENDER", x.may(), 1 + 4 + 16 + 32);
        x.ask(6, 9);
        check.due("at TENDER", x.may(), 1 + 4 + 32);
        x.ask(2, 0);
        x.ask(6, 0);
        check.due("TENDER 0", x.may(), 1 + 4 + 32);
        x.ask(2, 23);
        x.ask(6, 22);
        check.due("TENDER 23", x.may(), 1 + 4 + 16 + 32);
        x.ask(2, 9);
        x.ask(6, 0);
        for (int i = 0; i < 3; i++) {
            x.does(0);
        }
        check.due("strength 11", x.may(), 1 + 4 + 16 + 32);
        x.does(0);
        check.due("class 0", x.may(), 1 + 4 + 32);
    }

    private static int thick(int kind, int fog, int hour, int wind) {
        PaidInFog x = World.alone(kind, 4, fog);
        x.ask(6, hour);
        x.ask(0, wind);
        return x.thick(0, 1);
    }

    private static void thickBySun(Check check) {
        check.promise(18);
        int[] sunny = {55, 60, 55, 60, 50, 61, 46};
        int[] little = {0, 2, 0, 2, 0, 4, 0};
        int[] dark = {60, 60, 60, 60, 60, 64, 60};
        for (int kind = 0; kind < 7; kind++) {
            check.due("kind " + kind + " at hour 7", thick(kind, 60, 7, 0), sunny[kind]);
            check.due("kind " + kind + " at hour 17", thick(kind, 60, 17, 0), sunny[kind]);
            check.due("kind " + kind + " at hour 6", thick(kind, 60, 6, 0), dark[kind]);
            check.due("kind " + kind + " at hour 18", thick(kind, 60, 18, 0), dark[kind]);
            check.due("kind " + kind + " with little fog", thick(kind, 2, 7, 0), little[kind]);
        }
        int[][] behind = {{0, 99}, {7, 99}, {8, 94}, {17, 49}, {18, 44}, {24, 44}, {31, 44}, {32, 39}, {99, 0}};
        for (int[] at : behind) {
            check.due("a field behind " + at[0], World.fields(99).thick(0, at[0]), at[1]);
        }
        PaidInFog x = World.fields(60);
        x.ask(1, 18);
        check.due("SUN 18", x.thick(0, 99), 60);
        x.ask(1, 0);
        check.due("SUN 0", x.thick(0, 1), 55);
        check.due("a marsh has 99 at most", thick(World.MARSH, 97, 0, 0), 99);
    }

    private static void thickByWind(Check check) {
        check.promise(18);
        int[] blown = {33, 33, 38, 33, 33, 42, 33};
        for (int kind = 0; kind < 7; kind++) {
            check.due("kind " + kind + " east", thick(kind, 43, 0, 1), blown[kind]);
            check.due("kind " + kind + " west", thick(kind, 43, 0, -1), blown[kind]);
        }
        fogsAre(check, World.fields(40, 0), 1, 1, 30, 10);
        fogsAre(check, World.fields(40, 0), 1, 2, 23, 15);
        fogsAre(check, World.fields(0, 40), -1, 1, 10, 30);
        fogsAre(check, World.fields(40, 0), -1, 1, 30, 0);
        fogsAre(check, World.fields(40, 20), 0, 1, 40, 20);
        fogsAre(check, World.fields(40, 40, 40), 1, 1, 30, 40, 40);
        fogsAre(check, World.fields(40, 40, 40), -1, 1, 40, 40, 30);
        PaidInFog x = World.fields(99);
        x.place(World.BRIDGE, 0, 99);
        fogsAre(check, x, 1, 1, 75, 99);
        fogsAre(check, x, 1, 2, 57, 99);
    }

    private static void fogsAre(Check check, PaidInFog x, int wind, int n, int... due) {
        x.ask(0, wind);
        for (int p = 0; p < due.length; p++) {
            check.due("place " + p + " behind " + n + ", wind " + wind, x.thick(p, n), due[p]);
        }
    }

    private static void thickInOrder(Check check) {
        check.promise(18);
        check.due("sun, then wind", thick(World.FIELD, 41, 7, 1), 27);
        check.due("wind, then the marsh", thick(World.MARSH, 43, 7, 1), 39);
        PaidInFog x = World.fields(0);
        x.place(World.MARSH, 9, 99);
        fogsAre(check, x, -1, 1, 12, 96);
        check.changesNothing("thick", World::busy, y -> y.thick(5, 40));
    }

    private static void thickRefused(Check check) {
        check.promise(18);
        check.refused("place 7", World::busy, y -> y.thick(7, 100), -1);
        check.refused("place -1", World::busy, y -> y.thick(-1, 0), -1);
        check.refused("n 100", World::busy, y -> y.thick(0, 100), -6);
        check.refused("n -1", World::busy, y -> y.thick(0, -1), -6);
    }

    private static int left(int kind, int strength, int hour, int n) {
        PaidInFog x = World.alone(kind, 2, 0);
        x.bottle(0, strength);
        x.ask(6, hour);
        return x.strength(0, n);
    }

    private static void strength(Check check) {
        check.promise(19);
        int[] dark = {56, 58, 56, 60, 54, 56, 54};
        int[] sunny = {52, 56, 52, 58, 48, 52, 48};
        for (int kind = 0; kind < 7; kind++) {
            check.due("kind " + kind + " at hour 0", left(kind, 60, 0, 1), dark[kind]);
            check.due("kind " + kind + " at hour 7", left(kind, 60, 7, 1), sunny[kind]);
            check.due("kind " + kind + " at hour 17", left(kind, 60, 17, 1), sunny[kind]);
        }
        check.due("now", left(0, 60, 7, 0), 60);
        check.due("a vault at hour 1", left(World.VAULT, 60, 1, 1), 60);
        check.due("a vault at hour 2", left(World.VAULT, 60, 2, 1), 59);
        check.due("a vault at hour 18", left(World.VAULT, 60, 18, 1), 59);
        check.due("to 0", left(World.FIELD, 4, 0, 1), 0);
        check.due("below 0", left(World.FIELD, 3, 0, 1), 0);
        check.due("empty it stays", left(World.FIELD, 3, 0, 99), 0);
        check.due("to 1", left(World.FIELD, 5, 0, 1), 1);
    }

    private static void strengthInTime(Check check) {
        check.promise(19);
        check.due("seven dark hours, two in the sun", left(World.FIELD, 99, 0, 9), 55);
        check.due("a vault over night", left(World.VAULT, 99, 16, 12), 99 - 2 - 2 - 6 - 2);
        PaidInFog x = World.busy();
        check.due("carried, now", x.strength(0, 0), 87);
        check.due("carried", x.strength(0, 1), 84);
        check.due("carried into the sun", x.strength(0, 7), 87 - 18 - 6);
        check.due("an empty one", x.strength(1, 5), 0);
        check.due("behind 99", x.strength(0, 99), 0);
        check.changesNothing("strength", World::busy, y -> y.strength(0, 40));
        check.refused("bottle 4", World::busy, y -> y.strength(4, 100), -1);
        check.refused("bottle -1", World::busy, y -> y.strength(-1, 0), -1);
        check.refused("n 100", World::busy, y -> y.strength(1, 100), -6);
        check.refused("n -1", World::busy, y -> y.strength(0, -1), -6);
    }

    private static void worthIn(Check check) {
        check.promise(20);
        PaidInFog x = World.fields(0);
        x.bottle(0, 72);
        x.bottle(0, 43);
        x.bottle(0, 12);
        check.due("now", x.worthIn(0), 14);
        check.due("behind an hour", x.worthIn(1), 5);
        check.due("behind two", x.worthIn(2), 5);
        check.due("behind 99", x.worthIn(99), 0);
        x.bottle(0, 99);
        x.does(6);
        x.does(4);
        check.due("with COINS", x.worthIn(0), 9 + 4 + 1);
        check.due("of COINS alone", x.worthIn(99), 9);
        check.changesNothing("worthIn", World::busy, y -> y.worthIn(30));
        check.refused("n 100", World::busy, y -> y.worthIn(100), -6);
        check.refused("n -1", World::busy, y -> y.worthIn(-1), -6);
    }

    private static void thickest(Check check) {
        check.promise(21);
        check.due("a field", World.fields(50).thickest(0), 0);
        check.due("no fog", World.fields(0).thickest(0), 0);
        check.due("a marsh all day", World.alone(World.MARSH, 4, 10).thickest(0), 24);
        check.due("a marsh to the brim", World.alone(World.MARSH, 9, 95).thickest(0), 1);
        PaidInFog x = World.alone(World.MARSH, 3, 0);
        x.ask(6, 18);
        check.due("a marsh till the sun is up", x.thickest(0), 13);
        x = World.fields(80, 0);
        x.ask(0, 1);
        check.due("the soonest of two", x.thickest(1), 3);
        check.changesNothing("thickest", World::busy, y -> y.thickest(5));
        check.refused("place 7", World::busy, y -> y.thickest(7), -1);
        check.refused("place -1", World::busy, y -> y.thickest(-1), -1);
    }

    private static void where(Check check) {
        check.promise(22);
        PaidInFog x = World.fields(80, 0);
        x.ask(0, 1);
        check.due("now", x.where(0), 0);
        check.due("as much at two", x.where(3), 0);
        check.due("later", x.where(4), 1);
        check.due("none at all", x.where(99), 0);
        check.due("the last", World.fields(1, 2, 3).where(7), 2);
        check.changesNothing("where", World::busy, y -> y.where(30));
        check.refused("no places", PaidInFog::new, y -> y.where(100), -5);
        check.refused("n 100", World::busy, y -> y.where(100), -6);
        check.refused("n -1", World::busy, y -> y.where(-1), -6);
    }

    private static int lasts(int kind, int a, int strength, int sun, int hour) {
        PaidInFog x = World.alone(kind, a, 0);
        x.bottle(0, strength);
        x.ask(1, sun);
        x.ask(6, hour);
        return x.lasts(0);
    }

    private static void lasts(Check check) {
        check.promise(23);
        check.due("in a field", lasts(World.FIELD, 0, 99, 7, 0), 15);
        check.due("class 0 now", lasts(World.FIELD, 0, 9, 7, 0), 0);
        check.due("class 1 for an hour", lasts(World.FIELD, 0, 10, 7, 0), 1);
        check.due("99 hours", lasts(World.VAULT, 9, 72, 18, 9), 99);
        check.due("longer", lasts(World.VAULT, 9, 73, 18, 9), -1);
        check.due("much longer", lasts(World.VAULT, 9, 99, 18, 0), -1);
        check.due("an empty one", World.busy().lasts(1), 0);
        check.due("a carried one", World.busy().lasts(0), 16);
        check.changesNothing("lasts", World::busy, y -> y.lasts(2));
        check.refused("bottle 4", World::busy, y -> y.lasts(4), -11, -1);
        check.refused("bottle -1", World::busy, y -> y.lasts(-1), -11, -1);
        check.refused("bottle MAX", World::busy, y -> y.lasts(MAX), -11, -1);
    }

    private static void keep(Check check) {
        check.promise(24);
        PaidInFog x = World.ofAllKinds();
        x.bottle(4, 99);
        check.due("now it is the same anywhere", x.keep(0, 0), 0);
        check.due("in the vault", x.keep(0, 5), 3);
        check.due("it lies on the hill still", x.bottleOf(0, 2), 4);
        x = World.fields(0);
        x.place(World.CELLAR, 0, 0);
        x.place(World.HILL, 0, 0);
        x.place(World.CELLAR, 0, 0);
        x.bottle(2, 6);
        check.due("the first of two cellars", x.keep(0, 1), 1);
        check.due("empty anywhere", x.keep(0, 3), 0);
        check.due("a carried one", World.busy().keep(0, 9), 3);
        check.changesNothing("keep", World::busy, y -> y.keep(0, 9));
        check.refused("bottle 4", World::busy, y -> y.keep(4, 100), -1);
        check.refused("bottle -1", World::busy, y -> y.keep(-1, 0), -1);
        check.refused("an empty one", World::busy, y -> y.keep(1, 100), -1);
        check.refused("n 100", World::busy, y -> y.keep(0, 100), -6);
        check.refused("n -1", World::busy, y -> y.keep(0, -1), -6);
    }

    private static PaidInFog toldFogs() {
        PaidInFog x = World.fields(40, 0);
        x.ask(0, 1);
        World.rowOf(x, 0, 0, 30, 0);
        World.rowOf(x, 1, 1, 40, 0, 77);
        World.rowOf(x, 2, 2, 30, 10);
        World.rowOf(x, 3, 3, 30 + (5L << 32), 10);
        World.rowOf(x, 4, 2, 30 + 65536, 10);
        World.rowOf(x, 5, 0, 40);
        x.show(6, 1);
        return x;
    }

    private static void tells(Check check) {
        check.promise(30);
        PaidInFog x = toldFogs();
        check.due("west", x.tells(0, 1), 1);
        check.due("calm, and more elements than places", x.tells(1, 1), 2);
        check.due("east", x.tells(2, 1), 4);
        check.due("longs by their lowest bits", x.tells(3, 1), 4);
        check.due("ints by all", x.tells(4, 1), 0);
        check.due("no hour on", x.tells(1, 0), 7);
        check.due("none", x.tells(2, 0), 0);
        check.due("24 hours on", x.tells(2, 24), 0);
        x = World.alone(World.CELLAR, 0, 3);
        World.rowOf(x, 0, 0, 3);
        check.due("too little to go", x.tells(0, 24), 7);
        x = new PaidInFog();
        x.row(0, 0, 0);
        check.due("no places", x.tells(0, 3), 7);
        check.changesNothing("tells", OutlookTests::toldFogs, y -> y.tells(0, 9));
    }

    private static void tellsRefused(Check check) {
        check.promise(30);
        check.refused("shelf -1", OutlookTests::toldFogs, y -> y.tells(-1, 0), -1);
        check.refused("shelf 8", OutlookTests::toldFogs, y -> y.tells(8, 25), -1);
        check.refused("a place", OutlookTests::toldFogs, y -> y.tells(6, 25), -2);
        check.refused("nothing", OutlookTests::toldFogs, y -> y.tells(7, 25), -3);
        check.refused("fewer elements", OutlookTests::toldFogs, y -> y.tells(5, 25), -5);
        check.refused("n 25", OutlookTests::toldFogs, y -> y.tells(0, 25), -6);
        check.refused("n -1", OutlookTests::toldFogs, y -> y.tells(0, -1), -6);
        check.refused("n MIN", OutlookTests::toldFogs, y -> y.tells(0, MIN), -6);
    }
}
