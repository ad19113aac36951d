/** Promises 9 to 14: places, fog, what is asked for, bottles. */
final class ValleyTests {
    private static final int MAX = Integer.MAX_VALUE;
    private static final int MIN = Integer.MIN_VALUE;

    private ValleyTests() {
    }

    static void run(Check check) {
        place(check);
        placeOf(check);
        fog(check);
        ask(check);
        askRefused(check);
        bottle(check);
        bottleOf(check);
    }

    private static void place(Check check) {
        check.promise(9);
        PaidInFog x = new PaidInFog();
        check.due("the first place", x.place(6, 9, 99), 0);
        check.due("its kind", x.placeOf(0, 0), 6);
        check.due("its a", x.placeOf(0, 1), 9);
        check.due("its fog", x.placeOf(0, 2), 99);
        for (int p = 1; p < 8; p++) {
            check.due("place " + p, x.place(p - 1, 0, p), p);
            check.due("kind of place " + p, x.placeOf(p, 0), p - 1);
        }
        check.due("places", x.status(0), 8);
        check.due("the first one still", x.placeOf(0, 2), 99);
        check.refused("kind 7", World::full, y -> y.place(7, 10, 0), -1);
        check.refused("kind -1", World::busy, y -> y.place(-1, 0, 0), -1);
        check.refused("a 10", World::full, y -> y.place(0, 10, 0), -6);
        check.refused("a -1", World::busy, y -> y.place(0, -1, 0), -6);
        check.refused("fog 100", World::full, y -> y.place(0, 0, 100), -6);
        check.refused("fog -1", World::busy, y -> y.place(0, 0, -1), -6);
        check.refused("a ninth", World::full, y -> y.place(0, 0, 0), -7);
    }

    private static void placeOf(Check check) {
        check.promise(10);
        PaidInFog x = World.busy();
        check.due("kind", x.placeOf(5, 0), 5);
        check.due("a", x.placeOf(5, 1), 4);
        check.due("fog, 4 more by the hour", x.placeOf(5, 2), 51);
        check.due("bottles", x.placeOf(5, 3), 8);
        check.due("a carried one doesn't lie there", x.placeOf(0, 3), 0);
        check.due("nor an empty one", x.placeOf(1, 3), 0);
        x.bottle(5, 9);
        check.due("two bottles", x.placeOf(5, 3), 8 + 2);
        int[] leaks = {4, 2, 4, 0, 6, 4, 6};
        for (int p = 0; p < leaks.length; p++) {
            check.due("leak at place " + p, x.placeOf(p, 4), leaks[p]);
        }
        x.ask(6, 2);
        check.due("a vault from its hour on", x.placeOf(3, 4), 1);
        x.ask(6, 17);
        int[] sunny = {8, 4, 8, 2, 12, 8, 12};
        for (int p = 0; p < sunny.length; p++) {
            check.due("leak in the sun at place " + p, x.placeOf(p, 4), sunny[p]);
        }
        check.refused("placeOf(7, 0)", World::busy, y -> y.placeOf(7, 0), -5);
        check.refused("placeOf(-1, 0)", World::busy, y -> y.placeOf(-1, 0), -5);
        check.refused("what 5", World::busy, y -> y.placeOf(0, 5), -5);
        check.refused("what -1", World::busy, y -> y.placeOf(0, -1), -5);
        check.refused("what and place", World::busy, y -> y.placeOf(MAX, MIN), -5);
    }

    private static void fog(Check check) {
        check.promise(11);
        PaidInFog x = World.ofAllKinds();
        check.due("fog(4, 0)", x.fog(4, 0), 99);
        check.due("fog(4, 99)", x.fog(4, 99), 0);
        check.due("it is so", x.placeOf(4, 2), 99);
        check.due("the others are not", x.placeOf(3, 2) + x.placeOf(5, 2), 67);
        check.refused("fog(7, ..)", World::busy, y -> y.fog(7, 100), -1);
        check.refused("fog(-1, ..)", World::busy, y -> y.fog(-1, 1), -1);
        check.refused("100", World::busy, y -> y.fog(0, 100), -6);
        check.refused("-1", World::busy, y -> y.fog(0, -1), -6);
    }

    private static void ask(Check check) {
        check.promise(12);
        PaidInFog x = new PaidInFog();
        check.due("WIND -1", x.ask(0, -1), 1);
        check.due("WIND 1", x.ask(0, 1), 0);
        check.due("WIND 0", x.ask(0, 0), 2);
        check.due("status(7)", x.status(7), 1);
        check.due("SUN 0", x.ask(1, 0), 7);
        check.due("SUN 18", x.ask(1, 18), 0);
        check.due("status(8)", x.status(8), 18);
        check.due("TENDER 0", x.ask(2, 0), 9);
        check.due("TENDER 23", x.ask(2, 23), 0);
        check.due("status(9)", x.status(9), 23);
        int[] prices = {1, 4, 9};
        for (int rank = 1; rank <= 3; rank++) {
            check.due("PRICE of " + rank, x.ask(2 + rank, 99), prices[rank - 1]);
            check.due("PRICE of " + rank, x.ask(2 + rank, 0), 99);
            check.due("PRICE of " + rank, x.ask(2 + rank, 10 * rank), 0);
        }
        check.due("PRICE of 1 still", x.ask(3, 0), 10);
        check.due("HOUR 23", x.ask(6, 23), 0);
        check.due("HOUR 0", x.ask(6, 0), 23);
        check.due("no day more by it", x.status(6), 0);
    }

    private static void askRefused(Check check) {
        check.promise(12);
        int[][] wrong = {{0, -2}, {0, 2}, {1, -1}, {1, 19}, {2, -1}, {2, 24}, {3, -1}, {3, 100}, {4, -1}, {4, 100},
            {5, -1}, {5, 100}, {6, -1}, {6, 24}, {7, 0}, {-1, 0}, {MAX, 0}, {MIN, 0}, {6, MAX}, {0, MIN}};
        for (int[] at : wrong) {
            check.refused("ask(" + at[0] + ", " + at[1] + ")", World::busy, y -> y.ask(at[0], at[1]), -6);
        }
    }

    private static void bottle(Check check) {
        check.promise(13);
        PaidInFog x = World.busy();
        check.due("the first empty one", x.bottle(2, 99), 1);
        check.due("its strength", x.bottleOf(1, 0), 99);
        check.due("it lies there", x.bottleOf(1, 2), 2);
        check.due("a new one", x.bottle(6, 1), 4);
        check.due("bottles", x.status(1), 5);
        x = World.allBottles();
        check.due("twelve", x.status(1), 12);
        x.does(6);
        x.does(4);
        check.due("there is an empty one again", x.bottle(1, 50), 0);
        check.due("twelve still", x.status(1), 12);
        check.refused("place 7", World::busy, y -> y.bottle(7, 0), -1);
        check.refused("place -1", World::busy, y -> y.bottle(-1, 5), -1);
        check.refused("carried is no place", World::busy, y -> y.bottle(100, 5), -1);
        check.refused("strength 0", World::allBottles, y -> y.bottle(0, 0), -6);
        check.refused("strength 100", World::allBottles, y -> y.bottle(0, 100), -6);
        check.refused("strength -1", World::busy, y -> y.bottle(0, -1), -6);
        check.refused("a thirteenth", World::allBottles, y -> y.bottle(0, 1), -7);
    }

    private static void bottleOf(Check check) {
        check.promise(14);
        PaidInFog x = World.busy();
        check.due("strength, carried for an hour", x.bottleOf(0, 0), 87);
        check.due("carried", x.bottleOf(0, 2), 100);
        check.due("strength of an empty one", x.bottleOf(1, 0), 0);
        check.due("class of an empty one", x.bottleOf(1, 1), 0);
        check.due("an empty one", x.bottleOf(1, 2), 200);
        check.due("in the vault", x.bottleOf(2, 2), 3);
        int[][] classes = {{1, 0}, {9, 0}, {10, 1}, {39, 1}, {40, 2}, {69, 2}, {70, 3}, {99, 3}};
        PaidInFog y = World.fields(0);
        for (int b = 0; b < classes.length; b++) {
            y.bottle(0, classes[b][0]);
            check.due("class of strength " + classes[b][0], y.bottleOf(b, 1), classes[b][1]);
        }
        check.refused("bottle 4", World::busy, z -> z.bottleOf(4, 9), -1);
        check.refused("bottle -1", World::busy, z -> z.bottleOf(-1, 0), -1);
        check.refused("what 3", World::busy, z -> z.bottleOf(0, 3), -5);
        check.refused("what -1", World::busy, z -> z.bottleOf(1, -1), -5);
    }
}
