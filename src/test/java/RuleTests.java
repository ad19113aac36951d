/** Promises 25 to 29: rows of acts ahead, and rules. */
final class RuleTests {
    private RuleTests() {
    }

    static void run(Check check) {
        ahead(check);
        aheadWalks(check);
        aheadRefused(check);
        byGreedyAndFull(check);
        byMarket(check);
        byDown(check);
        byRefused(check);
        best(check);
        latest(check);
        latestRefused(check);
        dear(check);
        dearWithAFullPurse(check);
    }

    private static void rowIs(Check check, PaidInFog x, int coins, int... acts) {
        check.due("COINS ahead " + acts.length, x.ahead(acts.length, -1), coins);
        for (int i = 0; i < acts.length; i++) {
            check.due("act " + i + " of " + acts.length, x.ahead(acts.length, i), acts[i]);
        }
    }

    private static void ahead(Check check) {
        check.promise(25);
        rowIs(check, World.fields(90), 0, 1);
        rowIs(check, World.fields(90), 9, 1, 4);
        rowIs(check, World.fields(90), 9, 1, 4, 1);
        rowIs(check, World.fields(90), 18, 1, 1, 4, 4);
        rowIs(check, new PaidInFog(), 0, 0, 0, 0, 0);
        PaidInFog again = World.fields(90);
        rowIs(check, again, 18, 1, 1, 4, 4);
        rowIs(check, again, 9, 1, 4, 1);
        rowIs(check, again, 9, 1, 4);
        rowIs(check, again, 0, 1);
        PaidInFog x = World.fields(0);
        x.bottle(0, 50);
        x.bottle(0, 60);
        rowIs(check, x, 0, 6);
        rowIs(check, x, 4, 6, 4);
        rowIs(check, x, 4, 6, 6, 4);
        x.ask(2, 2);
        rowIs(check, x, 4, 6, 4, 6, 0);
    }

    private static void aheadWalks(Check check) {
        check.promise(25);
        rowIs(check, World.fields(5, 90), 9, 2, 1, 4);
        rowIs(check, World.fields(0, 0), 0, 0, 0, 0);
        PaidInFog x = World.fields(90, 0);
        x.does(2);
        rowIs(check, x, 9, 3, 1, 4);
        check.due("COINS with those that are there", spentOnce().ahead(1, -1), 9);
        check.changesNothing("ahead", World::busy, y -> y.ahead(4, 3));
    }

    private static PaidInFog spentOnce() {
        PaidInFog x = World.fields(90);
        x.does(1);
        x.does(4);
        return x;
    }

    private static void aheadRefused(Check check) {
        check.promise(25);
        check.refused("no such i", World::busy, y -> y.ahead(3, 3), -5);
        check.refused("i 1 of 1", World::busy, y -> y.ahead(1, 1), -5);
        check.refused("i -2", World::busy, y -> y.ahead(4, -2), -5);
        check.refused("n 0", World::busy, y -> y.ahead(0, -1), -6);
        check.refused("n 5", World::busy, y -> y.ahead(5, 0), -6);
        check.refused("n 5 and i", World::busy, y -> y.ahead(5, 9), -6);
        check.refused("n -1 and i", World::busy, y -> y.ahead(-1, -2), -6);
    }

    private static void byIs(Check check, PaidInFog x, int rule, int n, int coins, int strength, int place) {
        check.due("COINS by " + rule + " in " + n, x.by(rule, n, 0), coins);
        check.due("STRENGTH by " + rule + " in " + n, x.by(rule, n, 1), strength);
        check.due("the PLACE by " + rule + " in " + n, x.by(rule, n, 2), place);
    }

    private static void byGreedyAndFull(Check check) {
        check.promise(26);
        PaidInFog x = World.fields(90);
        byIs(check, x, 0, 0, 0, 0, 0);
        byIs(check, x, 0, 1, 0, 87, 0);
        byIs(check, x, 0, 2, 9, 0, 0);
        byIs(check, x, 0, 3, 9, 77, 0);
        byIs(check, x, 0, 6, 22, 0, 0);
        byIs(check, x, 1, 6, 0, 327, 0);
        byIs(check, x, 1, 7, 9, 240, 0);
        byIs(check, World.fields(19), 1, 2, 1, 0, 0);
        byIs(check, World.fields(9, 90), 0, 9, 0, 0, 0);
        byIs(check, new PaidInFog(), 0, 48, 0, 0, 0);
    }

    private static void byMarket(Check check) {
        check.promise(26);
        PaidInFog x = World.fields(90);
        byIs(check, x, 2, 1, 0, 87, 0);
        byIs(check, x, 2, 2, 9, 0, 0);
        byIs(check, x, 2, 4, 18, 0, 0);
        byIs(check, x, 2, 6, 18, 64 + 57, 0);
        byIs(check, World.fields(19), 2, 2, 1, 0, 0);
        x.ask(2, 0);
        byIs(check, x, 2, 2, 0, 84 + 77, 0);
    }

    private static PaidInFog down(int kind) {
        PaidInFog x = World.fields(20);
        x.place(kind, 0, 0);
        x.place(World.FIELD, 0, 0);
        return x;
    }

    private static void byDown(Check check) {
        check.promise(26);
        PaidInFog x = down(World.CELLAR);
        byIs(check, x, 3, 2, 0, 14 + 7, 0);
        byIs(check, x, 3, 3, 0, 11 + 4, 1);
        byIs(check, x, 3, 4, 0, 0, 1);
        byIs(check, x, 3, 5, 0, 0, 2);
        byIs(check, x, 3, 48, 0, 0, 2);
        byIs(check, down(World.VAULT), 3, 4, 0, 0, 1);
        byIs(check, down(World.BRIDGE), 3, 4, 0, 8 + 1, 2);
        byIs(check, World.fields(30), 3, 4, 1, 11 + 4, 0);
        x.fog(1, 12);
        byIs(check, x, 3, 4, 0, 8 + 1 + 9, 1);
    }

    private static void byRefused(Check check) {
        check.promise(26);
        check.changesNothing("by", World::busy, y -> y.by(3, 48, 0));
        check.refused("what 3", World::busy, y -> y.by(0, 0, 3), -5);
        check.refused("what -1", World::busy, y -> y.by(4, 49, -1), -5);
        check.refused("rule 4", World::busy, y -> y.by(4, 1, 0), -6);
        check.refused("rule -1", World::busy, y -> y.by(-1, 1, 0), -6);
        check.refused("n 49", World::busy, y -> y.by(0, 49, 0), -6);
        check.refused("n -1", World::busy, y -> y.by(0, -1, 0), -6);
    }

    private static void best(Check check) {
        check.promise(27);
        check.due("greedy", World.fields(90).best(6), 0);
        check.due("greedy of equals", World.fields(90).best(1), 0);
        check.due("no fog here: down, too early", World.fields(5, 90).best(7), 0);
        check.due("no fog here: down", World.fields(5, 90).best(8), 3);
        PaidInFog x = World.fields(75);
        x.ask(1, 18);
        x.ask(2, 23);
        x.ask(3, 99);
        x.ask(4, 0);
        check.due("market", x.best(11), 2);
        check.due("full", carryingOne().best(7), 1);
        check.due("no hours", x.best(0), 0);
        check.due("no places", new PaidInFog().best(48), 0);
        check.changesNothing("best", World::busy, y -> y.best(48));
        check.refused("n 49", World::busy, y -> y.best(49), -6);
        check.refused("n -1", World::busy, y -> y.best(-1), -6);
    }

    private static void latest(Check check) {
        check.promise(28);
        PaidInFog x = World.fields(90);
        check.due("v 0", x.latest(0, 9, 0), 0);
        check.due("paid at hour 1", x.latest(0, 9, 9), 2);
        check.due("paid at hour 3", x.latest(0, 9, 18), 4);
        check.due("as much as there can be", x.latest(0, 6, 22), 6);
        check.due("more than there can be", x.latest(0, 6, 23), -1);
        check.due("no time", x.latest(0, 1, 9), -1);
        check.due("full: paid at hour 6", x.latest(1, 7, 9), 7);
        check.due("99,999", x.latest(3, 48, 99999), -1);
        x.ask(6, 22);
        check.due("nothing is paid at hour 23", x.latest(0, 2, 9), -1);
        x.ask(6, 21);
        check.due("paid at hour 22", x.latest(0, 2, 9), 23);
        x.ask(6, 22);
        check.due("it is paid next day", x.latest(1, 48, 1), 5);
        check.due("with all COINS there are", spentOnce().latest(0, 0, 9), 0);
        check.changesNothing("latest", World::busy, y -> y.latest(0, 48, 50));
    }

    private static void latestRefused(Check check) {
        check.promise(28);
        int[][] wrong = {{-1, 0, 0}, {4, 0, 0}, {0, -1, 0}, {0, 49, 0}, {0, 0, -1}, {0, 0, 100000}};
        for (int[] at : wrong) {
            check.refused("latest(" + at[0] + ", " + at[1] + ", " + at[2] + ")", World::busy,
                y -> y.latest(at[0], at[1], at[2]), -16, -6);
        }
    }

    /** A bottle of 96 is carried while the wind takes the fog: who spends first has less to gather. */
    private static PaidInFog carryingOne() {
        PaidInFog x = World.fields(90);
        x.bottle(0, 99);
        x.does(6);
        x.ask(6, 0);
        x.ask(0, 1);
        return x;
    }

    private static void dear(Check check) {
        check.promise(29);
        check.due("2 v against v and 5", carryingOne().dear(6), 6);
        check.due("2 v and 4 against v and 6", carryingOne().dear(7), 3);
        check.due("v against v and 5", carryingOne().dear(5), -1);
        check.due("nothing against nothing", carryingOne().dear(0), -1);
        PaidInFog z = World.fields(15);
        z.bottle(0, 75);
        z.does(6);
        check.due("4 against v", z.dear(2), 0);
        PaidInFog x = World.fields(90);
        check.due("greedy has more of them", x.dear(7), -1);
        x.ask(5, 50);
        check.due("the price there is counts for nothing", carryingOne().dear(6), 6);
        PaidInFog y = carryingOne();
        y.ask(4, 98);
        check.due("2 v against v and 99", y.dear(6), -1);
        y.ask(4, 97);
        check.due("2 v against v and 98", y.dear(6), 99);
        check.changesNothing("dear", World::busy, w -> w.dear(48));
        check.refused("n 49", World::busy, w -> w.dear(49), -16, -6);
        check.refused("n -1", World::busy, w -> w.dear(-1), -16, -6);
    }

    /** A marsh to fill a purse with, and a field behind it, from which the wind takes the fog as in carryingOne(). */
    private static PaidInFog carryingOneWith(int coins) {
        PaidInFog x = World.alone(World.MARSH, 9, 99);
        x.place(World.FIELD, 0, 0);
        x.ask(1, 18);
        x.ask(2, 23);
        for (int what = 3; what <= 5; what++) {
            x.ask(what, 99);
        }
        for (int missing = coins; missing > 0; missing = coins - x.status(4)) {
            x.season(missing > 12000 ? 200 : missing > 2000 ? 20 : 1);
        }
        x.does(5);
        x.does(2);
        x.bottle(1, 99);
        x.does(6);
        x.fog(1, 90);
        x.ask(6, 0);
        x.ask(0, -1);
        for (int rank = 1; rank <= 3; rank++) {
            x.ask(2 + rank, rank * rank);
        }
        return x;
    }

    private static void dearWithAFullPurse(Check check) {
        check.promise(29);
        PaidInFog x = carryingOneWith(99 * 1009);
        check.due("108 are missing to 99,999", x.status(4), 99891);
        check.due("2 v against v and 5", x.dear(6), 6);
        x.ask(4, 52);
        check.due("2 v against v and 53, just below", x.dear(6), 54);
        x.ask(4, 53);
        check.due("2 v against v and 54, but 108 each", x.dear(6), -1);
        PaidInFog y = carryingOneWith(99999);
        check.due("99,999 at most", y.status(4), 99999);
        check.due("neither rule brings more", y.dear(6), -1);
        check.due("nor could it", y.does(4), 99999);
    }
}
