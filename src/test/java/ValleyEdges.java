/** The document's chapter 1, sentence by sentence: how much there may be of everything. */
final class ValleyEdges {
    private static final int[] ABOVE = {-1, 0, 0, 1, 0, 2, 4};

    private ValleyEdges() {
    }

    static void run(Check check) {
        places(check);
        kinds(check);
        traitAndFog(check);
        asked(check);
        sunUp(check);
        sunUpByWhatItDoes(check);
        tender(check);
        tenderBySpending(check);
        coins(check);
        coinsInEveryWay(check);
        coinsAhead(check);
        coinsOfTwoRules(check);
        bottles(check);
        emptyBottles(check);
        carried(check);
        classes(check);
        classesInThePurse(check);
    }

    private static void places(Check check) {
        check.sentence(9, "PLACES have numbers, from 0 on, 8 at most, in a row");
        PaidInFog x = new PaidInFog();
        for (int p = 0; p < 8; p++) {
            check.due("a place behind " + p, x.place(p % 7, p, 10 * p), p);
            check.due("how many", x.status(0), p + 1);
        }
        check.due("a ninth", x.place(0, 0, 0), -7);
        check.due("how many", x.status(0), 8);
        for (int p = 0; p < 8; p++) {
            check.due("kind of " + p, x.placeOf(p, 0), p % 7);
            check.due("a of " + p, x.placeOf(p, 1), p);
            check.due("fog of " + p, x.placeOf(p, 2), 10 * p);
        }
        check.due("all fog", x.status(10), 280);
        check.refused("a ninth of any kind", World::crowded, y -> y.place(6, 9, 99), -7);
        check.bounds("a place", World::crowded, (y, v) -> y.fog(v, 5), 0, 7, -1);
        check.bounds("a place of seven", World::busy, (y, v) -> y.fog(v, 5), 0, 6, -1);
    }

    private static void kinds(Check check) {
        check.sentence(9, "0 FIELD; 1 CELLAR, 2 BRIDGE, 4 HILL, each under FIELD; 3 VAULT, under CELLAR; 5 MARSH, "
            + "under BRIDGE; 6 PEAK, under HILL");
        for (int place = 0; place < 7; place++) {
            for (int kind = 0; kind < 7; kind++) {
                boolean isUnder = kind == place || kind == 0 || kind == ABOVE[place];
                check.due("kind " + place + " as " + kind + " is another", shelved(place).says(0, kind) == -2 ? 1 : 0,
                    isUnder ? 0 : 1);
            }
        }
        check.bounds("kind", World::busy, (x, v) -> x.place(v, 0, 0), 0, 6, -1);
        check.bounds("a peak as kind", () -> shelved(World.PEAK), (x, v) -> x.says(0, v), 0, 6, -1);
    }

    private static PaidInFog shelved(int kind) {
        PaidInFog x = World.alone(kind, 3, 50);
        x.show(0, 0);
        return x;
    }

    private static void traitAndFog(Check check) {
        check.sentence(9, "a (0 to 9), FOG (0 to 99).");
        check.bounds("a", World::busy, (x, v) -> x.place(0, v, 50), 0, 9, -6);
        check.bounds("FOG", World::busy, (x, v) -> x.place(0, 5, v), 0, 99, -6);
        check.sentence(11, "a (0 to 9), FOG (0 to 99).");
        check.bounds("FOG", World::busy, (x, v) -> x.fog(6, v), 0, 99, -6);
    }

    private static void asked(Check check) {
        check.sentence(12, "WIND (-1, 0, 1; 0 at first)");
        check.due("at first", new PaidInFog().ask(0, 1), 0 + 1);
        check.bounds("WIND", World::busy, (x, v) -> x.ask(0, v), -1, 1, -6);
        check.sentence(12, "SUN (0 to 18; 7 at first)");
        check.due("at first", new PaidInFog().ask(1, 1), 7);
        check.bounds("SUN", World::busy, (x, v) -> x.ask(1, v), 0, 18, -6);
        check.sentence(12, "TENDER (0 to 23; 9 at first)");
        check.due("at first", new PaidInFog().ask(2, 1), 9);
        check.bounds("TENDER", World::busy, (x, v) -> x.ask(2, v), 0, 23, -6);
        check.sentence(12, "HOUR (0 to 23; 0 at first)");
        check.due("at first", new PaidInFog().ask(6, 1), 0);
        check.bounds("HOUR", World::busy, (x, v) -> x.ask(6, v), 0, 23, -6);
        check.sentence(12, "PRICES of CLASS 1 to 3 (0 to 99; 1, 4, 9 at first).");
        int[] first = {1, 4, 9};
        for (int rank = 1; rank <= 3; rank++) {
            int what = 2 + rank;
            check.due("of CLASS " + rank + " at first", new PaidInFog().ask(what, 0), first[rank - 1]);
            check.bounds("of CLASS " + rank, World::busy, (x, v) -> x.ask(what, v), 0, 99, -6);
        }
        check.bounds("what", World::busy, (x, v) -> x.ask(v, 1), 0, 6, -6);
        check.sentence(12, "WIND (what 0; told as -1 to 1, and 1 more in what it was)");
        for (int was = -1; was <= 1; was++) {
            for (int wind = -1; wind <= 1; wind++) {
                PaidInFog x = new PaidInFog();
                x.ask(0, was);
                check.due("what it was", x.ask(0, wind), was + 1);
                check.due("what it is", x.status(7), wind + 1);
            }
        }
    }

    private static boolean isUp(int sun, int hour) {
        return hour >= sun && hour <= 17;
    }

    private static void sunUp(Check check) {
        check.sentence(44, "it is up from that HOUR to HOUR 17");
        for (int sun = 0; sun <= 18; sun++) {
            PaidInFog x = new PaidInFog();
            x.ask(1, sun);
            for (int hour = 0; hour <= 23; hour++) {
                x.ask(6, hour);
                check.due("SUN " + sun + ", HOUR " + hour, x.status(20), isUp(sun, hour) ? 1 : 0);
            }
        }
    }

    private static void sunUpByWhatItDoes(Check check) {
        check.sentence(37, "it is up from that HOUR to HOUR 17");
        for (int sun = 0; sun <= 18; sun++) {
            for (int hour = 0; hour <= 23; hour++) {
                PaidInFog x = World.fields(50);
                x.bottle(0, 50);
                x.ask(1, sun);
                x.ask(6, hour);
                check.due("a leak, SUN " + sun + ", HOUR " + hour, x.placeOf(0, 4), isUp(sun, hour) ? 8 : 4);
                x.does(0);
                check.due("FOG, SUN " + sun + ", HOUR " + hour, x.placeOf(0, 2), isUp(sun, hour) ? 45 : 50);
                check.due("STRENGTH, SUN " + sun + ", HOUR " + hour, x.bottleOf(0, 0), isUp(sun, hour) ? 42 : 46);
            }
        }
    }

    private static void tender(Check check) {
        check.sentence(17, "from that HOUR on nothing is paid with");
        for (int tender = 0; tender <= 23; tender++) {
            PaidInFog x = World.carryingStrength(90);
            x.ask(2, tender);
            for (int hour = 0; hour <= 23; hour++) {
                x.ask(6, hour);
                check.due("TENDER " + tender + ", HOUR " + hour, x.may() & 16, hour < tender ? 16 : 0);
            }
        }
    }

    private static void tenderBySpending(Check check) {
        check.sentence(37, "HOUR is below TENDER, and YOU carry one of CLASS 1 at least");
        check.refused("at TENDER", () -> toSpend(9, 9), x -> x.does(4), -6);
        check.refused("at TENDER 0", () -> toSpend(0, 0), x -> x.does(4), -6);
        check.refused("at TENDER 23", () -> toSpend(23, 23), x -> x.does(4), -6);
        check.due("below TENDER 9", toSpend(9, 8).does(4), 9);
        check.due("below TENDER 23", toSpend(23, 22).does(4), 9);
        check.due("below TENDER 1", toSpend(1, 0).does(4), 9);
        check.refused("CLASS 0", () -> World.carryingStrength(9), x -> x.does(4), -6);
        check.due("CLASS 1", World.carryingStrength(10).does(4), 1);
    }

    private static PaidInFog toSpend(int tender, int hour) {
        PaidInFog x = World.carryingStrength(90);
        x.ask(2, tender);
        x.ask(6, hour);
        return x;
    }

    private static void coins(Check check) {
        check.sentence(37, "COINS (0 at first, 99,999 at most)");
        check.due("at first", new PaidInFog().status(4), 0);
        int[][] due = {{99989, 99998}, {99990, 99999}, {99991, 99999}, {99998, 99999}, {99999, 99999}};
        for (int[] at : due) {
            PaidInFog x = World.rich(at[0]);
            check.due("there are", x.status(4), at[0]);
            check.due("nothing is carried", x.status(2), 0);
            x.does(1);
            check.due("SPEND may be with " + at[0], x.may() & 16, 16);
            check.due("9 more than " + at[0], x.does(4), at[1]);
            check.due("it is kept", x.status(4), at[1]);
            check.due("the bottle is EMPTY all the same", x.bottleOf(0, 2), 200);
        }
    }

    private static void coinsInEveryWay(Check check) {
        check.sentence(38, "COINS (0 at first, 99,999 at most)");
        check.due("8 more, not 9", World.rich(99991).season(2), 8);
        check.due("9 more", World.rich(99990).season(2), 9);
        check.due("none more", World.rich(99999).season(2), 0);
        check.sentence(15, "COINS (0 at first, 99,999 at most)");
        PaidInFog x = World.rich(99991);
        World.law(x, "hour 1;hour 4");
        check.due("by a law", x.status(4), 99999);
        check.sentence(33, "COINS (0 at first, 99,999 at most)");
        PaidInFog y = World.rich(99991);
        World.rowOf(y, 0, 0, 1, 4);
        check.due("told", y.told(0, 2, 0), 99999);
        check.due("by a day", y.done(0, 2), 99999);
        check.sentence(20, "COINS (0 at first, 99,999 at most)");
        PaidInFog z = World.rich(99999);
        z.bottle(0, 99);
        check.due("COINS and WORTH may be more", z.worthIn(0), 99999 + 9);
    }

    private static void coinsAhead(Check check) {
        check.sentence(26, "COINS (0 at first, 99,999 at most)");
        for (int rule = 0; rule < 3; rule++) {
            check.due("by rule " + rule, World.rich(99991).by(rule, 48, 0), 99999);
        }
        check.sentence(27, "COINS (0 at first, 99,999 at most)");
        check.due("all bring as much, the first", World.rich(99999).best(48), 0);
        check.sentence(28, "COINS (0 at first, 99,999 at most)");
        check.due("9 are missing", World.rich(99990).latest(0, 2, 99999), 2);
        check.due("8 are missing", World.rich(99991).latest(0, 2, 99999), 2);
        check.due("10 are missing", World.rich(99989).latest(0, 2, 99999), -1);
        check.due("none is missing", World.rich(99999).latest(0, 0, 99999), 0);
        check.sentence(25, "COINS (0 at first, 99,999 at most)");
        PaidInFog x = World.rich(99991);
        check.due("COINS", x.ahead(2, -1), 99999);
        check.due("the second ACT", x.ahead(2, 1), 4);
        PaidInFog y = World.rich(99999);
        check.due("COINS", y.ahead(2, -1), 99999);
        check.due("no more COINS, so STRENGTH counts: GATHER", y.ahead(2, 0), 1);
        check.due("and not SPEND", y.ahead(2, 1), 1);
    }

    /** The wind takes the fog: in 6 hours rule 0 spends one of each CLASS, rule 1 two of CLASS 3. CLASS 2 brings 50. */
    private static PaidInFog richWithTwoRules(int coins) {
        PaidInFog x = World.rich(coins);
        x.place(World.FIELD, 0, 90);
        x.does(2);
        x.bottle(1, 99);
        x.does(6);
        x.fog(1, 90);
        x.fog(0, 0);
        x.ask(0, -1);
        x.ask(6, 0);
        x.ask(4, 50);
        return x;
    }

    private static void coinsOfTwoRules(Check check) {
        check.sentence(29, "COINS (0 at first, 99,999 at most)");
        check.due("2 v against v and 51", richWithTwoRules(0).dear(6), 52);
        check.due("104 against 103, 104 are missing", richWithTwoRules(99895).dear(6), 52);
        check.due("103 against 103, 103 are missing", richWithTwoRules(99896).dear(6), -1);
        check.due("none is missing", richWithTwoRules(99999).dear(6), -1);
    }

    private static void bottles(Check check) {
        check.sentence(13, "BOTTLES have numbers, from 0 on, 12 at most in all: STRENGTH (1 to 99)");
        PaidInFog x = World.ofAllKinds();
        for (int b = 0; b < 12; b++) {
            check.due("a bottle behind " + b, x.bottle(b % 7, 12 + b), b);
            check.due("how many", x.status(1), b + 1);
        }
        check.due("a thirteenth", x.bottle(0, 50), -7);
        for (int b = 0; b < 12; b++) {
            check.due("STRENGTH of " + b, x.bottleOf(b, 0), 12 + b);
            check.due("where " + b + " lies", x.bottleOf(b, 2), b % 7);
        }
        check.bounds("a bottle", World::crowded, (y, v) -> y.bottleOf(v, 0), 0, 11, -1);
        check.bounds("a bottle of four", World::busy, (y, v) -> y.bottleOf(v, 0), 0, 3, -1);
        check.bounds("STRENGTH", World::busy, (y, v) -> y.bottle(3, v), 1, 99, -6);
        check.refused("a thirteenth", World::crowded, y -> y.bottle(7, 1), -7);
        check.due("the bits of twelve", World.allBottles().placeOf(0, 3), 4095);
    }

    /** Twelve bottles, of which 3, 5 and 11 leak out in the next hour. */
    private static PaidInFog threeEmpty() {
        PaidInFog x = World.fields(99);
        for (int b = 0; b < 12; b++) {
            x.bottle(0, b == 3 || b == 5 || b == 11 ? 4 : 90);
        }
        x.does(0);
        return x;
    }

    private static void emptyBottles(Check check) {
        check.sentence(13, "the first EMPTY one, else a new one");
        PaidInFog x = threeEmpty();
        check.due("EMPTY ones count", x.status(1), 12);
        int[] free = {3, 5, 11};
        for (int b : free) {
            check.due("the first EMPTY one", x.bottle(0, 60), b);
        }
        check.due("none is EMPTY", x.bottle(0, 60), -7);
        check.sentence(37, "the first EMPTY one, else a new one");
        PaidInFog y = threeEmpty();
        for (int b : free) {
            y.does(1);
            check.due("gathered", y.bottleOf(b, 2), 100);
        }
        check.due("no new one", y.status(1), 12);
        check.refused("GATHER, none is EMPTY", World::allBottles, z -> z.does(1), -6);
        PaidInFog eleven = World.fields(99);
        for (int b = 0; b < 11; b++) {
            eleven.bottle(0, 99);
        }
        check.due("the twelfth may be gathered", eleven.may() & 2, 2);
        eleven.does(1);
        check.due("it is new", eleven.bottleOf(11, 2), 100);
        check.due("a thirteenth may not", eleven.may() & 2, 0);
        check.sentence(15, "the first EMPTY one, else a new one");
        PaidInFog w = threeEmpty();
        World.law(w, "bottle 0 33");
        check.due("by a law", w.bottleOf(3, 0), 33);
    }

    private static void carried(Check check) {
        check.sentence(17, "or YOU carry it (6 at most), or it is EMPTY");
        for (int b = 0; b <= 6; b++) {
            PaidInFog x = World.carrying(b);
            x.fog(0, 99);
            check.due("GATHER, " + b + " are carried", x.may() & 2, b < 6 ? 2 : 0);
            check.due("TAKE, none lies here", x.may() & 64, 0);
            x.bottle(0, 50);
            check.due("TAKE, " + b + " are carried", x.may() & 64, b < 6 ? 64 : 0);
            check.due("carried", x.status(2), b);
        }
        check.refused("GATHER a seventh", () -> foggy(6), x -> x.does(1), -6);
        check.refused("TAKE a seventh", () -> foggy(6), x -> x.does(6), -6);
        check.due("GATHER a sixth", foggy(5).does(1), 0);
        PaidInFog y = foggy(5);
        y.does(6);
        check.due("TAKE a sixth", y.status(2), 6);
        y.does(4);
        check.due("room for one again", y.may() & 2, 2);
    }

    private static PaidInFog foggy(int bottles) {
        PaidInFog x = World.carrying(bottles);
        x.fog(0, 99);
        x.bottle(0, 50);
        return x;
    }

    private static int rankOf(int strength) {
        return strength < 10 ? 0 : strength <= 39 ? 1 : strength <= 69 ? 2 : 3;
    }

    private static void classes(Check check) {
        int[] prices = {0, 10, 20, 40};
        for (int strength = 1; strength <= 99; strength++) {
            PaidInFog x = World.fields(0);
            World.pricesAre(x, 10, 20, 40);
            x.bottle(0, strength);
            int rank = rankOf(strength);
            check.sentence(14, "CLASS by STRENGTH: 0 below 10, 1 to 39, 2 to 69, 3 from 70 on.");
            check.due("of " + strength, x.bottleOf(0, 1), rank);
            check.sentence(34, "CLASS by STRENGTH: 0 below 10, 1 to 39, 2 to 69, 3 from 70 on.");
            check.due("WORTH of " + strength, x.worth(), prices[rank]);
            check.sentence(35, "EACH of a CLASS: how many");
            for (int of = 0; of <= 3; of++) {
                check.due("EACH of " + of + " with one of " + strength, x.each(of), of == rank ? 1 : 0);
            }
        }
    }

    private static void classesInThePurse(Check check) {
        check.sentence(37, "CLASS by STRENGTH: 0 below 10, 1 to 39, 2 to 69, 3 from 70 on.");
        int[] prices = {0, 10, 20, 40};
        for (int strength = 1; strength <= 96; strength++) {
            PaidInFog x = World.carryingStrength(strength);
            World.pricesAre(x, 10, 20, 40);
            int rank = rankOf(strength);
            check.due("there is one of", x.bottleOf(0, 0), strength);
            check.due("SPEND it", x.does(4), rank == 0 ? -6 : prices[rank]);
        }
    }
}
