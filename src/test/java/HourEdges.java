/** The document's chapter 2, sentence by sentence: what may be in an hour, and what it does at its edges. */
final class HourEdges {
    private static final String TAKES =
        "6 TAKE: the strongest that lies here, of several the first, YOU carry (fewer than 6 so far).";
    private static final int[] LEAKS = {4, 2, 4, 1, 6, 4, 6};

    private HourEdges() {
    }

    static void run(Check check) {
        gather(check);
        gatherTakesTheFogAhead(check);
        onAndBack(check);
        spendTheStrongest(check);
        spendOfEquals(check);
        put(check);
        take(check);
        takeTheStrongest(check);
        leaks(check);
        leaksToNothing(check);
        leaksOfVaults(check);
        leakAfterTheAct(check);
        leakOfAll(check);
        sunToNothing(check);
        sunOfPeaks(check);
        windOfFourths(check);
        windOutAtTheEnds(check);
        windAllAtOnce(check);
        windBehindTheSun(check);
        windToTheBrim(check);
        marshes(check);
        clock(check);
        noPlaces(check);
        theEighthPlace(check);
        theTwelfthBottle(check);
    }

    private static PaidInFog after(PaidInFog x, int... acts) {
        for (int act : acts) {
            x.does(act);
        }
        return x;
    }

    private static void mayIs(Check check, String what, PaidInFog x, int act, boolean may) {
        check.due(what + ": may()", x.may() >> act & 1, may ? 1 : 0);
        int were = x.status(16);
        x.does(act);
        check.due(what + ": refused", x.status(16) - were, may ? 0 : 1);
    }

    private static void gather(Check check) {
        check.sentence(37, "1 GATHER: there are PLACES, FOG here is 10 at least, YOU carry fewer than 6, of BOTTLES "
            + "there are fewer than 12 or one is EMPTY");
        mayIs(check, "no PLACES", new PaidInFog(), 1, false);
        mayIs(check, "FOG 9", World.fields(9, 99), 1, false);
        mayIs(check, "FOG 10", World.fields(10, 0), 1, true);
        mayIs(check, "FOG 99", World.fields(99), 1, true);
        mayIs(check, "FOG 9 there", after(World.fields(99, 9), 2), 1, false);
        mayIs(check, "FOG 10 there", after(World.fields(0, 10), 2), 1, true);
        for (int kind = 0; kind < 7; kind++) {
            mayIs(check, "FOG 10, kind " + kind, World.alone(kind, 0, 10), 1, true);
            mayIs(check, "FOG 9, kind " + kind, World.alone(kind, 9, 9), 1, false);
        }
    }

    private static void gatherTakesTheFogAhead(Check check) {
        check.sentence(37, "GATHER takes STRENGTH by the FOG ahead of the 10 less.");
        for (int fog = 10; fog <= 99; fog++) {
            PaidInFog x = after(World.fields(fog), 1);
            check.due("STRENGTH of FOG " + fog + ", less 3", x.bottleOf(0, 0), fog - 3);
            check.due("FOG " + fog + " less 10", x.placeOf(0, 2), fog - 10);
            check.due("carried", x.bottleOf(0, 2), 100);
        }
    }

    private static void onAndBack(Check check) {
        check.sentence(37, "2 ON, 3 BACK: to the next PLACE, the one ahead, if there is one.");
        for (int places = 0; places <= 8; places++) {
            PaidInFog x = World.fields(new int[places]);
            for (int p = 0; p < places; p++) {
                check.due("YOU", x.status(3), p);
                check.due("ON from " + p + " of " + places, x.may() & 4, p < places - 1 ? 4 : 0);
                check.due("BACK from " + p + " of " + places, x.may() & 8, p > 0 ? 8 : 0);
                x.does(2);
            }
            mayIs(check, "ON at the end of " + places, x, 2, false);
            check.due("YOU", x.status(3), Math.max(0, places - 1));
            for (int p = places - 1; p > 0; p--) {
                x.does(3);
                check.due("YOU", x.status(3), p - 1);
            }
            mayIs(check, "BACK at the start of " + places, x, 3, false);
            check.due("YOU", x.status(3), 0);
        }
    }

    private static void spendTheStrongest(Check check) {
        check.sentence(37, "the strongest of those, of several the first, is EMPTY then, COINS are its PRICE more");
        int[][] carried = {{10}, {9, 10}, {10, 9}, {39, 40, 9}, {40, 39}, {69, 70, 68}, {70, 69}, {1, 2, 3, 10, 4, 5},
            {71, 72, 70}, {5, 81}};
        int[] first = {0, 1, 0, 1, 0, 1, 0, 3, 1, 1};
        int[] coins = {1, 1, 1, 4, 4, 9, 9, 1, 9, 9};
        for (int i = 0; i < carried.length; i++) {
            PaidInFog x = World.carryingAll(carried[i]);
            for (int b = 0; b < carried[i].length; b++) {
                check.due("STRENGTH of " + b + " in row " + i, x.bottleOf(b, 0), carried[i][b]);
            }
            check.due("COINS, row " + i, x.does(4), coins[i]);
            for (int b = 0; b < carried[i].length; b++) {
                boolean isGone = b == first[i] || carried[i][b] <= 3;
                check.due("where " + b + " is, row " + i, x.bottleOf(b, 2), isGone ? 200 : 100);
            }
            check.due("STRENGTH of the one that is EMPTY, row " + i, x.bottleOf(first[i], 0), 0);
        }
        mayIs(check, "nothing carried", World.carryingAll(), 4, false);
        mayIs(check, "six of CLASS 0", World.carryingAll(9, 9, 8, 9, 4, 9), 4, false);
        mayIs(check, "one of CLASS 1 among six", World.carryingAll(9, 9, 8, 9, 4, 10), 4, true);
        PaidInFog lying = World.fields(0, 0);
        lying.bottle(0, 99);
        mayIs(check, "one that lies here", lying, 4, false);
    }

    private static void spendOfEquals(Check check) {
        check.sentence(37, "the strongest of those, of several the first, is EMPTY then, COINS are its PRICE more");
        PaidInFog x = World.carryingAll(50, 60, 60, 60);
        int[] due = {1, 2, 3, 0};
        for (int i = 0; i < due.length; i++) {
            x.does(4);
            check.due("spent as number " + i, x.bottleOf(due[i], 2), 200);
            check.due("carried", x.status(2), 3 - i);
        }
        PaidInFog free = World.carryingAll(80);
        free.ask(5, 0);
        check.due("for nothing", free.does(4), 0);
        check.due("it is EMPTY", free.bottleOf(0, 2), 200);
        PaidInFog dear = World.carryingAll(80);
        dear.ask(5, 99);
        check.due("for 99", dear.does(4), 99);
    }

    private static void put(Check check) {
        check.sentence(37, "5 PUT: all that YOU carry lie here (one at least).");
        mayIs(check, "nothing carried", World.carryingAll(), 5, false);
        mayIs(check, "one of 1", World.carryingAll(1), 5, true);
        PaidInFog x = World.carryingAll(60, 50, 40, 30, 20, 10);
        x.bottle(0, 9);
        x.bottle(1, 50);
        x.bottle(1, 1);
        x.does(2);
        check.due("one is EMPTY by now", x.bottleOf(8, 2), 200);
        x.does(5);
        int[] where = {1, 1, 1, 1, 1, 1, 0, 1, 200};
        for (int b = 0; b < where.length; b++) {
            check.due("where " + b + " is", x.bottleOf(b, 2), where[b]);
        }
        check.due("STRENGTH of the EMPTY one", x.bottleOf(8, 0), 0);
        mayIs(check, "nothing carried any more", x, 5, false);
    }

    private static void take(Check check) {
        check.sentence(37, TAKES);
        PaidInFog x = World.fields(0, 0);
        mayIs(check, "nothing lies anywhere", x, 6, false);
        x.bottle(1, 90);
        mayIs(check, "one lies there", x, 6, false);
        x.bottle(0, 1);
        mayIs(check, "one of 1 lies here", x, 6, true);
        check.due("it has leaked out", x.bottleOf(1, 2), 200);
        PaidInFog y = World.fields(0);
        y.bottle(0, 4);
        mayIs(check, "one of 4", y, 6, true);
        check.due("carried, for it leaks 3", y.bottleOf(0, 2), 100);
        check.due("STRENGTH", y.bottleOf(0, 0), 1);
        mayIs(check, "it is carried", y, 6, false);
        PaidInFog z = World.fields(0);
        z.bottle(0, 4);
        z.does(0);
        mayIs(check, "it is EMPTY", z, 6, false);
        for (int b = 5; b <= 6; b++) {
            PaidInFog w = World.carrying(b);
            w.bottle(0, 1);
            mayIs(check, b + " carried", w, 6, b < 6);
        }
    }

    private static void takeTheStrongest(Check check) {
        check.sentence(37, TAKES);
        PaidInFog x = World.alone(World.VAULT, 9, 0);
        x.place(World.VAULT, 9, 0);
        x.bottle(1, 99);
        int[] strengths = {20, 60, 50, 60, 1, 60};
        for (int strength : strengths) {
            x.bottle(0, strength);
        }
        int[] due = {2, 4, 6, 3, 1, 5};
        for (int i = 0; i < due.length; i++) {
            check.due("it lies here", x.bottleOf(due[i], 2), 0);
            x.does(6);
            check.due("carried then", x.status(2), due[i] == 5 ? 5 : i + 1);
            check.due("where " + due[i] + " is", x.bottleOf(due[i], 2), due[i] == 5 ? 200 : 100);
        }
        check.due("the one there lies there", x.bottleOf(0, 2), 1);
    }

    private static PaidInFog lying(int kind, int a, int strength, int hour) {
        PaidInFog x = World.alone(kind, a, 0);
        x.bottle(0, strength);
        x.ask(6, hour);
        return x;
    }

    private static void leaks(Check check) {
        check.sentence(37, "FIELD, BRIDGE, MARSH 4; CELLAR 2; VAULT 1, below HOUR a 0; HILL, PEAK 6; carried 3; twice "
            + "that, if the sun is up.");
        for (int hour = 0; hour <= 23; hour++) {
            int times = hour >= 7 && hour <= 17 ? 2 : 1;
            for (int kind = 0; kind < 7; kind++) {
                PaidInFog x = lying(kind, 0, 50, hour);
                check.due("told of kind " + kind + ", HOUR " + hour, x.placeOf(0, 4), times * LEAKS[kind]);
                check.due("kind " + kind + ", HOUR " + hour, after(x, 0).bottleOf(0, 0), 50 - times * LEAKS[kind]);
            }
            PaidInFog y = World.carryingStrength(50);
            y.ask(6, hour);
            check.due("carried, HOUR " + hour, after(y, 0).bottleOf(0, 0), 50 - times * 3);
        }
    }

    private static void leaksToNothing(Check check) {
        check.sentence(37, "One of STRENGTH 0 (or below) is EMPTY.");
        for (int hour : new int[] {0, 7}) {
            int times = hour == 7 ? 2 : 1;
            for (int kind = 0; kind < 7; kind++) {
                int leak = times * LEAKS[kind];
                for (int strength = 1; strength <= 14; strength++) {
                    PaidInFog x = after(lying(kind, 0, strength, hour), 0);
                    int left = Math.max(0, strength - leak);
                    String what = strength + ", kind " + kind + ", HOUR " + hour;
                    check.due("STRENGTH of " + what, x.bottleOf(0, 0), left);
                    check.due("where is " + what, x.bottleOf(0, 2), left == 0 ? 200 : 0);
                    check.due("bits of " + what, x.placeOf(0, 3), left == 0 ? 0 : 1);
                    check.due("TAKE " + what, x.may() & 64, left == 0 ? 0 : 64);
                }
            }
            for (int strength = 1; strength <= 8; strength++) {
                PaidInFog x = World.carryingStrength(strength);
                x.ask(6, hour);
                x.does(0);
                int left = Math.max(0, strength - 3 * times);
                check.due("carried, STRENGTH of " + strength, x.bottleOf(0, 0), left);
                check.due("carried, how many with " + strength, x.status(2), left == 0 ? 0 : 1);
                check.due("carried, PUT " + strength, x.may() & 32, left == 0 ? 0 : 32);
            }
        }
    }

    private static void leaksOfVaults(Check check) {
        check.sentence(37, "VAULT 1, below HOUR a 0");
        for (int a = 0; a <= 9; a++) {
            for (int hour = 0; hour <= 23; hour++) {
                int leak = (hour < a ? 0 : 1) * (hour >= 7 && hour <= 17 ? 2 : 1);
                PaidInFog x = lying(World.VAULT, a, 50, hour);
                x.show(0, 0);
                String what = "a " + a + ", HOUR " + hour;
                check.due("told, " + what, x.placeOf(0, 4), leak);
                check.due("said, " + what, x.says(0, 3), leak);
                check.due("said as a CELLAR, " + what, x.says(0, 1), leak);
                check.due("left, " + what, after(x, 0).bottleOf(0, 0), 50 - leak);
            }
        }
        PaidInFog x = after(lying(World.VAULT, 9, 1, 6), 0);
        check.due("one of 1 lasts below HOUR a", x.bottleOf(0, 2), 0);
    }

    private static void leakAfterTheAct(Check check) {
        check.sentence(37, "Then all BOTTLES that aren't EMPTY LEAK: where it lies");
        PaidInFog x = World.carryingAll(60);
        check.due("PUT in a vault it leaks 0", after(x, 5).bottleOf(0, 0), 60);
        check.due("TAKEN it leaks 3", after(x, 6).bottleOf(0, 0), 57);
        check.due("ON, carried, 3", after(x, 2).bottleOf(0, 0), 54);
        check.due("PUT in a field it leaks 4", after(x, 5).bottleOf(0, 0), 50);
        check.due("it lies in the field, 4", after(x, 3).bottleOf(0, 0), 46);
        PaidInFog y = World.fields(50);
        y.ask(6, 6);
        check.due("gathered at HOUR 6, 3", after(y, 1).bottleOf(0, 0), 47);
        check.due("gathered at HOUR 7, twice 3", after(y, 1).bottleOf(1, 0), 34);
        y.ask(6, 17);
        check.due("carried at HOUR 17, twice 3", after(y, 0).bottleOf(1, 0), 28);
        check.due("carried at HOUR 18, 3", after(y, 0).bottleOf(1, 0), 25);
    }

    private static void leakOfAll(Check check) {
        check.sentence(37, "Then all BOTTLES that aren't EMPTY LEAK: where it lies");
        PaidInFog x = World.crowded();
        x.does(0);
        int[] leaks = {4, 2, 4, 0, 6, 4, 6, 4};
        for (int b = 0; b < 12; b++) {
            check.due("bottle " + b, x.bottleOf(b, 0), 99 - b - leaks[b % 8]);
        }
        PaidInFog y = World.allBottles();
        for (int i = 0; i < 6; i++) {
            y.does(6);
        }
        for (int b = 0; b < 12; b++) {
            check.due("carried " + b, y.bottleOf(b, 2), b < 6 ? 100 : 0);
            check.due("after six hours " + b, y.bottleOf(b, 0), b < 6 ? 99 - 4 * b - 3 * (6 - b) : 99 - 24);
        }
    }

    private static void sunToNothing(Check check) {
        check.sentence(37, "Then the sun, if it is up: FOG is 5 less; CELLAR, VAULT 0; HILL 10, PEAK 10 and a less; "
            + "MARSH 3 (0 at least).");
        int[] takes = {5, 0, 5, 0, 10, 3, 10};
        for (int kind = 0; kind < 7; kind++) {
            for (int fog = 0; fog <= 21; fog++) {
                PaidInFog x = World.alone(kind, 0, fog);
                check.due("the night takes none of " + fog + ", kind " + kind, after(x, 0).placeOf(0, 2), fog);
                x.ask(6, 12);
                check.due("the sun, FOG " + fog + ", kind " + kind, after(x, 0).placeOf(0, 2),
                    Math.max(0, fog - takes[kind]));
            }
        }
    }

    private static void sunOfPeaks(Check check) {
        check.sentence(37, "Then the sun, if it is up: FOG is 5 less; CELLAR, VAULT 0; HILL 10, PEAK 10 and a less; "
            + "MARSH 3 (0 at least).");
        for (int a = 0; a <= 9; a++) {
            for (int more = -1; more <= 1; more++) {
                PaidInFog peak = World.alone(World.PEAK, a, 10 + a + more);
                peak.ask(6, 12);
                check.due("a PEAK of " + a + ", " + more, after(peak, 0).placeOf(0, 2), Math.max(0, more));
                PaidInFog hill = World.alone(World.HILL, a, 10 + more);
                hill.ask(6, 12);
                check.due("a HILL of " + a + ", " + more, after(hill, 0).placeOf(0, 2), Math.max(0, more));
                PaidInFog field = World.alone(World.FIELD, a, 5 + more);
                field.ask(6, 12);
                check.due("a FIELD of " + a + ", " + more, after(field, 0).placeOf(0, 2), Math.max(0, more));
            }
        }
    }

    private static void windOfFourths(Check check) {
        check.sentence(37, "from each PLACE a fourth of its FOG as it is then (BRIDGE, MARSH an eighth; cut) goes to "
            + "the next PLACE (WIND 1), the one ahead (-1)");
        for (int kind = 0; kind < 7; kind++) {
            int part = kind == 2 || kind == 5 ? 8 : 4;
            for (int fog = 0; fog <= 99; fog++) {
                for (int wind = -1; wind <= 1; wind++) {
                    PaidInFog x = World.fields(0);
                    x.place(kind, 0, fog);
                    x.place(World.FIELD, 0, 0);
                    x.ask(0, wind);
                    x.does(0);
                    int goes = fog / part;
                    String what = "FOG " + fog + ", kind " + kind + ", WIND " + wind;
                    check.due("left of " + what, x.placeOf(1, 2), wind == 0 ? fog : fog - goes);
                    check.due("the next, " + what, x.placeOf(2, 2), wind == 1 ? goes : 0);
                    check.due("the one ahead, " + what, x.placeOf(0, 2), wind == -1 ? goes : 0);
                }
            }
        }
    }

    private static void windOutAtTheEnds(Check check) {
        check.sentence(37, "all at once, out at the ends; 99 at most");
        for (int places = 1; places <= 8; places++) {
            int[] fogs = new int[places];
            fogs[places - 1] = 80;
            PaidInFog last = World.fields(fogs);
            last.ask(0, 1);
            check.due("out at the last of " + places, after(last, 0).status(10), 60);
            fogs[places - 1] = 0;
            fogs[0] = 80;
            PaidInFog first = World.fields(fogs);
            first.ask(0, -1);
            check.due("out at the first of " + places, after(first, 0).status(10), 60);
            PaidInFog inside = World.fields(fogs);
            inside.ask(0, 1);
            check.due("nothing is lost inside " + places, after(inside, 0).status(10), places == 1 ? 60 : 80);
        }
    }

    private static void fogsAre(Check check, String what, PaidInFog x, int... due) {
        for (int p = 0; p < due.length; p++) {
            check.due(what + ", place " + p, x.placeOf(p, 2), due[p]);
        }
    }

    private static void windAllAtOnce(Check check) {
        check.sentence(37, "all at once, out at the ends; 99 at most");
        PaidInFog east = World.fields(80, 40, 20, 8, 4, 3, 0, 99);
        east.ask(0, 1);
        fogsAre(check, "east", after(east, 0), 60, 50, 25, 11, 5, 4, 0, 75);
        PaidInFog west = World.fields(80, 40, 20, 8, 4, 3, 0, 99);
        west.ask(0, -1);
        fogsAre(check, "west", after(west, 0), 70, 35, 17, 7, 3, 3, 24, 75);
        PaidInFog calm = World.fields(80, 40, 20, 8, 4, 3, 0, 99);
        fogsAre(check, "calm", after(calm, 0), 80, 40, 20, 8, 4, 3, 0, 99);
    }

    private static void windBehindTheSun(Check check) {
        check.sentence(37, "from each PLACE a fourth of its FOG as it is then");
        PaidInFog x = World.fields(9, 0);
        x.ask(6, 12);
        x.ask(0, 1);
        fogsAre(check, "a fourth of 4", after(x, 0), 3, 1);
        PaidInFog y = World.fields(19, 0);
        y.ask(0, 1);
        fogsAre(check, "a fourth of 9, for 10 are gathered", after(y, 1), 7, 2);
        PaidInFog z = World.alone(World.MARSH, 9, 10);
        z.place(World.FIELD, 0, 0);
        z.ask(6, 12);
        z.ask(0, 1);
        fogsAre(check, "an eighth of 7, then 9 more", after(z, 0), 16, 0);
    }

    private static void windToTheBrim(Check check) {
        check.sentence(37, "all at once, out at the ends; 99 at most");
        int[][] due = {{96, 99}, {95, 99}, {92, 99}, {91, 99}, {90, 98}, {89, 97}};
        for (int[] at : due) {
            PaidInFog x = World.fields(99);
            x.place(World.BRIDGE, 0, at[0]);
            x.ask(0, 1);
            // a bridge loses an eighth of what it had (11 or 12), and 24 come
            int there = at[0] - at[0] / 8 + 24;
            check.due("a BRIDGE of " + at[0], after(x, 0).placeOf(1, 2), Math.min(99, there));
        }
        PaidInFog x = World.fields(99);
        x.place(World.BRIDGE, 0, 85);
        x.ask(0, 1);
        check.due("75 and 24", after(x, 0).placeOf(1, 2), 99);
        PaidInFog y = World.fields(99);
        y.place(World.BRIDGE, 0, 84);
        y.ask(0, 1);
        check.due("74 and 24", after(y, 0).placeOf(1, 2), 98);
        PaidInFog z = World.fields(99);
        z.place(World.BRIDGE, 0, 86);
        z.ask(0, 1);
        check.due("76 and 24", after(z, 0).placeOf(1, 2), 99);
    }

    private static void marshes(Check check) {
        check.sentence(37, "Then MARSHES have a more (99 at most).");
        for (int a = 0; a <= 9; a++) {
            for (int fog = 85; fog <= 99; fog++) {
                check.due("a " + a + ", FOG " + fog, after(World.alone(World.MARSH, a, fog), 0).placeOf(0, 2),
                    Math.min(99, fog + a));
            }
            for (int kind = 0; kind < 7; kind++) {
                check.due("kind " + kind + ", a " + a, after(World.alone(kind, a, 50), 0).placeOf(0, 2),
                    kind == World.MARSH ? 50 + a : 50);
            }
        }
        PaidInFog x = World.fields(99);
        x.place(World.MARSH, 9, 99);
        x.place(World.MARSH, 9, 0);
        x.ask(0, 1);
        fogsAre(check, "behind the wind, which leaves 99 at most", after(x, 0), 75, 99, 21);
    }

    private static void clock(Check check) {
        check.sentence(37, "Then HOUR is 1 more; behind 23 it is 0, and DAYS are 1 more.");
        PaidInFog x = new PaidInFog();
        for (int hours = 1; hours <= 50; hours++) {
            x.does(0);
            check.due("HOUR behind " + hours, x.status(5), hours % 24);
            check.due("DAYS behind " + hours, x.status(6), hours / 24);
        }
        x.ask(6, 23);
        check.due("no DAY by ask", x.status(6), 2);
        x.does(0);
        check.due("HOUR", x.status(5), 0);
        check.due("DAYS", x.status(6), 3);
        x.ask(6, 22);
        x.does(0);
        check.due("HOUR", x.status(5), 23);
        check.due("DAYS", x.status(6), 3);
    }

    private static void noPlaces(Check check) {
        check.sentence(37, "An ACT in truth is a whole HOUR, and so is WAIT.");
        PaidInFog x = new PaidInFog();
        x.ask(0, 1);
        x.ask(6, 12);
        check.due("WAIT", x.does(0), 0);
        check.due("HOUR", x.status(5), 13);
        for (int act = 0; act < 7; act++) {
            mayIs(check, "no PLACES, ACT " + act, new PaidInFog(), act, act == 0);
        }
        for (int act : new int[] {-1, 7, Integer.MIN_VALUE, Integer.MAX_VALUE}) {
            check.refused("ACT " + act, World::busy, y -> y.does(act), -6);
        }
        PaidInFog[] worlds = {World.fields(50, 50), World.fields(50, 50)};
        worlds[1].does(2);
        worlds[1].does(1);
        int[][] acts = {{0, 1, 2}, {0, 1, 2, 3, 4, 5}};
        for (int w = 0; w < worlds.length; w++) {
            worlds[w].image();
            for (int act : acts[w]) {
                int hour = worlds[w].status(5);
                if ((worlds[w].may() >> act & 1) == 1) {
                    worlds[w].does(act);
                    check.due("ACT " + act + " is an HOUR", worlds[w].status(5), hour + 1);
                }
                worlds[w].restore();
            }
        }
    }

    private static void theEighthPlace(Check check) {
        check.sentence(37, "8 at most, in a row");
        PaidInFog x = World.crowded();
        x.ask(6, 12);
        x.ask(0, -1);
        int inTheSun = 88 - 3;
        x.does(0);
        check.due("the sun, the wind and the marsh", x.placeOf(7, 2), inTheSun - inTheSun / 8 + 7);
        check.due("what the peak has of it", x.placeOf(6, 2), 60 - 15 - 45 / 4 + inTheSun / 8);
        PaidInFog y = World.full();
        for (int i = 0; i < 7; i++) {
            y.does(2);
        }
        y.ask(6, 0);
        check.due("YOU", y.status(3), 7);
        check.due("GATHER there", after(y, 1).bottleOf(0, 0), 77);
        check.due("PUT there", after(y, 5).bottleOf(0, 2), 7);
        check.due("its bit", y.placeOf(7, 3), 1);
        check.due("TAKE there", after(y, 6).bottleOf(0, 2), 100);
        y.fog(6, 8);
        y.ask(0, 1);
        check.due("out by the wind, and in", after(y, 0).placeOf(7, 2), 70 - 17 + 2);
    }

    /** Eleven bottles of no worth lie at the first place, and the twelfth, of CLASS 3, at the second. */
    private static PaidInFog twelve() {
        PaidInFog x = World.fields(0, 0);
        World.pricesAre(x, 0, 0, 9);
        for (int b = 0; b < 11; b++) {
            x.bottle(0, 60);
        }
        x.bottle(1, 99);
        return x;
    }

    private static void theTwelfthBottle(Check check) {
        check.sentence(37, "BOTTLES have numbers, from 0 on, 12 at most in all");
        PaidInFog x = twelve();
        check.due("its CLASS", x.bottleOf(11, 1), 3);
        check.due("WORTH", x.worth(), 9);
        check.due("EACH of CLASS 3", x.each(3), 1);
        check.due("RICHEST by it", x.richest(), 1);
        check.due("LASTS", x.lasts(11), 15);
        check.due("its bit", x.placeOf(1, 3), 1 << 11);
        x.does(2);
        check.due("it LEAKS", x.bottleOf(11, 0), 95);
        check.due("it may be TAKEN", x.may() & 64, 64);
        x.does(6);
        check.due("TAKEN", x.bottleOf(11, 2), 100);
        check.due("carried", x.status(2), 1);
        check.due("STRENGTH carried", x.by(0, 0, 1), 92);
        x.does(5);
        check.due("PUT", x.bottleOf(11, 2), 1);
        x.does(6);
        x.image();
        check.due("SPENT", x.does(4), 9);
        check.due("EMPTY", x.bottleOf(11, 2), 200);
        check.due("it is the one that is EMPTY", x.bottle(0, 5), 11);
        x.restore();
        check.due("as it was", x.bottleOf(11, 0), 92 - 4 - 3);
        check.due("as it was", x.bottleOf(11, 2), 100);
        check.due("AHEAD by it", x.ahead(1, -1), 9);
    }
}
