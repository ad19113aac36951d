/** Valleys to test in, and short words for what tests put on shelves. */
final class World {
    static final int FIELD = 0;
    static final int CELLAR = 1;
    static final int BRIDGE = 2;
    static final int VAULT = 3;
    static final int HILL = 4;
    static final int MARSH = 5;
    static final int PEAK = 6;

    private World() {
    }

    /** Places of the kinds 0 to 6, each at the number of its kind. */
    static PaidInFog ofAllKinds() {
        PaidInFog x = new PaidInFog();
        x.place(FIELD, 2, 50);
        x.place(CELLAR, 0, 30);
        x.place(BRIDGE, 1, 80);
        x.place(VAULT, 2, 20);
        x.place(HILL, 3, 99);
        x.place(MARSH, 4, 47);
        x.place(PEAK, 5, 60);
        return x;
    }

    /** Fields, one for each fog. */
    static PaidInFog fields(int... fogs) {
        PaidInFog x = new PaidInFog();
        for (int fog : fogs) {
            x.place(FIELD, 0, fog);
        }
        return x;
    }

    /** A place of a kind, alone. */
    static PaidInFog alone(int kind, int a, int fog) {
        PaidInFog x = new PaidInFog();
        x.place(kind, a, fog);
        return x;
    }

    /**
     * Something of everything: an image, a fault, a trace, refusals; shelf 0 a day in bytes, 1 a faulty law,
     * 2 place 4, 3 ints, 4 nothing, 5 longs; bottle 0 carried, 1 empty, 2 and 3 lying.
     */
    static PaidInFog busy() {
        PaidInFog x = ofAllKinds();
        x.image();
        x.bottle(0, 90);
        x.bottle(1, 2);
        x.bottle(3, 40);
        x.bottle(5, 35);
        x.does(6);
        x.ask(0, 1);
        x.ask(4, 7);
        x.seed(77);
        rowOf(x, 0, 0, 0, 1, 0);
        text(x, 1, "sun 5;fgo");
        x.law(1);
        x.show(2, 4);
        rowOf(x, 3, 2, 5, 6, 7);
        rowOf(x, 5, 3, -1, 1L << 40);
        x.act(6, 2, 3);
        x.each(9);
        return x;
    }

    /** Eight fields: there is no room for another place. */
    static PaidInFog full() {
        return fields(10, 20, 30, 40, 50, 60, 70, 80);
    }

    /** A field with twelve bottles of strength 99: there is no room for another one. */
    static PaidInFog allBottles() {
        PaidInFog x = fields(50, 50);
        for (int b = 0; b < 12; b++) {
            x.bottle(0, 99);
        }
        return x;
    }

    /** Places of all kinds, the last of them a marsh, with twelve bottles: nothing more has room. */
    static PaidInFog crowded() {
        PaidInFog x = ofAllKinds();
        x.place(MARSH, 7, 88);
        for (int b = 0; b < 12; b++) {
            x.bottle(b % 8, 99 - b);
        }
        return x;
    }

    /** You carry so many bottles of strength 90 and less, in a field without fog, at hour 0. */
    static PaidInFog carrying(int bottles) {
        PaidInFog x = fields(0, 0);
        for (int b = 0; b < bottles; b++) {
            x.bottle(0, 90);
        }
        for (int b = 0; b < bottles; b++) {
            x.does(6);
        }
        x.ask(6, 0);
        return x;
    }

    /** You carry bottles of these strengths in a vault without fog, with a field behind it, at hour 0. */
    static PaidInFog carryingAll(int... strengths) {
        PaidInFog x = alone(VAULT, 9, 0);
        x.place(FIELD, 0, 0);
        x.ask(1, 18);
        for (int b = 0; b < strengths.length; b++) {
            int later = 0;
            for (int other = 0; other < strengths.length; other++) {
                boolean isLater = strengths[other] < strengths[b] || strengths[other] == strengths[b] && other > b;
                later += isLater ? 1 : 0;
            }
            // the strongest is taken first, so it leaks for the longest
            x.bottle(0, strengths[b] + 3 * (later + 1));
        }
        for (int b = 0; b < strengths.length; b++) {
            x.does(6);
        }
        x.ask(1, 7);
        x.ask(6, 0);
        return x;
    }

    /** You carry one bottle of this strength (96 at most), in a field without fog, at hour 0. */
    static PaidInFog carryingStrength(int strength) {
        PaidInFog x = fields(0);
        x.bottle(0, strength + 3);
        x.does(6);
        x.ask(6, 0);
        return x;
    }

    /** So many COINS; a marsh with fog 99, nothing carried, hour 0, and all that is asked for as at first. */
    static PaidInFog rich(int coins) {
        PaidInFog x = alone(MARSH, 9, 99);
        x.ask(1, 18);
        x.ask(2, 23);
        pricesAre(x, coins % 99, coins % 99, coins % 99);
        x.does(1);
        x.does(4);
        pricesAre(x, 99, 99, 99);
        for (int missing = coins - x.status(4); missing > 0; missing = coins - x.status(4)) {
            x.season(missing > 12000 ? 200 : missing > 2000 ? 20 : 1);
        }
        x.row(7, 0, 60);
        x.done(7, 60);
        x.show(7, -1);
        pricesAre(x, 1, 4, 9);
        int[][] first = {{0, 0}, {1, 7}, {2, 9}, {6, 0}};
        for (int[] what : first) {
            x.ask(what[0], what[1]);
        }
        x.fog(0, 99);
        return x;
    }

    static void pricesAre(PaidInFog x, int one, int two, int three) {
        x.ask(3, one);
        x.ask(4, two);
        x.ask(5, three);
    }

    static void rowOf(PaidInFog x, int s, int sort, long... elements) {
        x.row(s, sort, elements.length);
        for (int i = 0; i < elements.length; i++) {
            x.set(s, i, elements[i]);
        }
    }

    static void text(PaidInFog x, int s, String letters) {
        x.row(s, 0, letters.length());
        for (int i = 0; i < letters.length(); i++) {
            x.set(s, i, letters.charAt(i));
        }
    }

    /** What the law answers. */
    static int law(PaidInFog x, String letters) {
        text(x, 7, letters);
        return x.law(7);
    }

    /** The fault of a law that is told to an object. */
    static int fault(PaidInFog x, String letters) {
        law(x, letters);
        return x.fault();
    }
}
