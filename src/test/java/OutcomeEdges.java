import java.util.ArrayList;
import java.util.List;

/** The document's chapter 3, sentence by sentence: what is told ahead is held against what comes to pass in truth. */
final class OutcomeEdges {
    private static final int[] HOURS = {0, 1, 2, 7, 24, 47, 48};

    private OutcomeEdges() {
    }

    static void run(Check check) {
        nothingIsChanged(check);
        numbersOfHours(check);
        behind(check);
        thickest(check);
        where(check);
        lasts(check);
        keep(check);
        ahead(check);
        aheadOfSeveral(check);
        rules(check);
        rulesInWords(check);
        best(check);
        latest(check);
        dear(check);
        tells(check);
        days(check);
        behindADay(check);
        worthAndEach(check);
        richest(check);
        season(check);
        draws(check);
    }

    /** Valleys that differ in what may be done in them. */
    private static List<Check.Maker> valleys() {
        return List.of(PaidInFog::new, World::busy, World::crowded, OutcomeEdges::marshes, OutcomeEdges::downhill,
            OutcomeEdges::windy, () -> World.carryingAll(9, 39, 69, 70), OutcomeEdges::evening, World::allBottles);
    }

    private static PaidInFog marshes() {
        PaidInFog x = World.alone(World.MARSH, 9, 99);
        x.place(World.MARSH, 3, 20);
        x.ask(1, 18);
        x.ask(2, 23);
        World.pricesAre(x, 3, 30, 31);
        return x;
    }

    private static PaidInFog downhill() {
        PaidInFog x = World.fields(35);
        x.place(World.CELLAR, 0, 0);
        x.place(World.FIELD, 0, 12);
        x.place(World.VAULT, 5, 20);
        x.ask(2, 23);
        return x;
    }

    private static PaidInFog windy() {
        PaidInFog x = World.fields(99, 99, 10);
        x.place(World.HILL, 2, 70);
        x.bottle(0, 99);
        x.does(6);
        x.ask(0, -1);
        x.ask(6, 6);
        return x;
    }

    private static PaidInFog evening() {
        PaidInFog x = World.fields(90, 60);
        x.does(1);
        x.does(1);
        x.ask(6, 22);
        x.ask(2, 23);
        return x;
    }

    private static void nothingIsChanged(Check check) {
        check.sentence(25, "(nothing is changed; YOU WAIT, if no ACT is told)");
        List<Check.Call> calls = List.of(x -> x.may(), x -> x.thick(1, 99), x -> x.strength(0, 99), x -> x.worthIn(99),
            x -> x.thickest(5), x -> x.where(99), x -> x.lasts(0), x -> x.keep(0, 99), x -> x.ahead(4, 3),
            x -> x.ahead(1, -1), x -> x.by(3, 48, 2), x -> x.best(48), x -> x.latest(1, 48, 99999), x -> x.dear(48),
            x -> x.judge(0, 3), x -> x.told(0, 3, 3), x -> x.worth(), x -> x.each(0), x -> x.richest(),
            x -> x.fault(), x -> x.trace(0), x -> x.status(0), x -> x.element(0, 0), x -> x.holds(0),
            x -> x.says(2, 4), x -> x.placeOf(6, 4), x -> x.bottleOf(3, 2));
        for (int i = 0; i < calls.size(); i++) {
            check.changesNothing("call " + i, World::busy, calls.get(i));
        }
        check.changesNothing("tells", OutcomeEdges::toTell, x -> x.tells(7, 24));
    }

    private static PaidInFog toTell() {
        PaidInFog x = World.busy();
        World.rowOf(x, 7, 1, 0, 1, 2, 3, 4, 5, 6);
        return x;
    }

    private static void numbersOfHours(Check check) {
        check.sentence(18, "BEHIND n HOURS (0 to 99)");
        check.bounds("thick in", World::busy, (x, n) -> x.thick(0, n), 0, 99, -6);
        check.sentence(19, "BEHIND n HOURS (0 to 99)");
        check.bounds("strength in", World::busy, (x, n) -> x.strength(0, n), 0, 99, -6);
        check.sentence(20, "BEHIND n HOURS (0 to 99)");
        check.bounds("worth in", World::busy, (x, n) -> x.worthIn(n), 0, 99, -6);
        check.sentence(22, "BEHIND n HOURS (0 to 99)");
        check.bounds("where in", World::busy, (x, n) -> x.where(n), 0, 99, -6);
        check.sentence(24, "BEHIND n HOURS (0 to 99)");
        check.bounds("keep for", World::busy, (x, n) -> x.keep(0, n), 0, 99, -6);
        check.sentence(25, "AHEAD n (1 to 4)");
        check.bounds("ahead", World::busy, (x, n) -> x.ahead(n, -1), 1, 4, -6);
        for (int n = 1; n <= 4; n++) {
            int rows = n;
            check.bounds("i of " + n, World::busy, (x, i) -> x.ahead(rows, i), -1, n - 1, -5);
        }
        check.sentence(26, "RULES for n HOURS (0 to 48)");
        check.bounds("by, n", World::busy, (x, n) -> x.by(3, n, 2), 0, 48, -6);
        check.bounds("by, rule", World::busy, (x, rule) -> x.by(rule, 48, 2), 0, 3, -6);
        check.bounds("by, what", World::busy, (x, what) -> x.by(3, 48, what), 0, 2, -5);
        check.sentence(27, "RULES for n HOURS (0 to 48)");
        check.bounds("best, n", World::busy, (x, n) -> x.best(n), 0, 48, -6);
        check.sentence(28, "RULES for n HOURS (0 to 48)");
        check.bounds("latest, n", World::busy, (x, n) -> x.latest(3, n, 99999), 0, 48, -16, -6);
        check.bounds("latest, rule", World::busy, (x, rule) -> x.latest(rule, 48, 0), 0, 3, -16, -6);
        check.bounds("latest, v", World::busy, (x, v) -> x.latest(0, 48, v), 0, 99999, -16, -6);
        check.sentence(29, "RULES for n HOURS (0 to 48)");
        check.bounds("dear, n", World::busy, (x, n) -> x.dear(n), 0, 48, -16, -6);
        check.sentence(30, "those by which FOG of all PLACES n HOURS on (0 to 24) is as a ROW tells it");
        check.bounds("tells, n", OutcomeEdges::toTell, (x, n) -> x.tells(7, n), 0, 24, -6);
        check.sentence(38, "A SEASON of n HOURS (1 to 200) by draws: COINS more.");
        check.bounds("season", World::busy, (x, n) -> x.season(n), 1, 200, -6);
    }

    private static PaidInFog waited(Check.Maker maker, int hours) {
        PaidInFog x = maker.make();
        for (int i = 0; i < hours; i++) {
            x.does(0);
        }
        return x;
    }

    private static void behind(Check check) {
        for (Check.Maker maker : valleys()) {
            for (int n : new int[] {0, 1, 2, 24, 98, 99}) {
                PaidInFog now = maker.make();
                PaidInFog then = waited(maker, n);
                check.sentence(18, "FOG of a PLACE, STRENGTH of a BOTTLE (0: EMPTY), COINS, and WORTH of all then");
                for (int p = 0; p < now.status(0); p++) {
                    check.due("FOG of " + p + " behind " + n, now.thick(p, n), then.placeOf(p, 2));
                }
                check.sentence(19, "FOG of a PLACE, STRENGTH of a BOTTLE (0: EMPTY), COINS, and WORTH of all then");
                for (int b = 0; b < now.status(1); b++) {
                    check.due("STRENGTH of " + b + " behind " + n, now.strength(b, n), then.bottleOf(b, 0));
                }
                check.sentence(20, "FOG of a PLACE, STRENGTH of a BOTTLE (0: EMPTY), COINS, and WORTH of all then");
                check.due("COINS and WORTH behind " + n, now.worthIn(n), then.status(4) + then.worth());
            }
        }
    }

    private static PaidInFog marsh(int a, int fog, int hour) {
        PaidInFog x = World.alone(World.MARSH, a, fog);
        x.ask(6, hour);
        return x;
    }

    private static void thickest(Check check) {
        check.sentence(21, "in how many HOURS (0 to 24) FOG is most, of several the soonest");
        PaidInFog rising = marsh(1, 0, 0);
        rising.ask(1, 18);
        check.due("a MARSH that rises for longer", rising.thickest(0), 24);
        check.due("at the brim behind 10 HOURS", marsh(1, 89, 19).thickest(0), 10);
        check.due("at the brim by now", marsh(9, 99, 0).thickest(0), 0);
        check.due("one less than the brim", marsh(9, 98, 0).thickest(0), 1);
        check.due("nothing there", World.fields(0).thickest(0), 0);
        check.due("as thick for some HOURS", World.fields(50).thickest(0), 0);
        for (Check.Maker maker : valleys()) {
            PaidInFog x = maker.make();
            for (int p = 0; p < x.status(0); p++) {
                int due = 0;
                for (int n = 1; n <= 24; n++) {
                    due = x.thick(p, n) > x.thick(p, due) ? n : due;
                }
                check.due("PLACE " + p, maker.make().thickest(p), due);
            }
        }
        check.bounds("PLACE", World::busy, (x, p) -> x.thickest(p), 0, 6, -1);
        check.refused("no PLACES", PaidInFog::new, x -> x.thickest(0), -1);
    }

    private static void where(Check check) {
        check.sentence(22, "the PLACE with most FOG, of several the first");
        check.due("of several", World.fields(1, 7, 5, 7, 7).where(0), 1);
        check.due("all as thick", World.fields(7, 7, 7).where(0), 0);
        check.due("the last of eight", World.full().where(0), 7);
        check.due("the last of eight, in a day", World.full().where(24), 7);
        check.due("one PLACE", World.fields(0).where(99), 0);
        for (int n : new int[] {0, 1, 24, 99}) {
            PaidInFog x = World.crowded();
            int due = 0;
            for (int p = 1; p < 8; p++) {
                due = x.thick(p, n) > x.thick(due, n) ? p : due;
            }
            check.due("behind " + n, x.where(n), due);
        }
        check.sentence(22, "-5 no PLACES; -6.");
        for (int n : new int[] {-1, 0, 99, 100}) {
            check.refused("no PLACES, n " + n, PaidInFog::new, x -> x.where(n), -5);
        }
    }

    private static void lasts(Check check) {
        check.sentence(23, "behind how many HOURS (0 to 99) a BOTTLE is of CLASS 0 or EMPTY; NONE.");
        for (int strength = 1; strength <= 99; strength++) {
            PaidInFog x = World.alone(World.VAULT, 9, 0);
            x.ask(1, 18);
            x.ask(6, 9);
            x.bottle(0, strength);
            // it leaks 1 in each of 15 HOURS of a day, and from HOUR 9 on
            int due = 0;
            for (int left = strength, hour = 9; left >= 10; hour = (hour + 1) % 24) {
                left -= hour < 9 ? 0 : 1;
                due++;
            }
            check.due("of " + strength, x.lasts(0), due > 99 ? -1 : due);
        }
        for (Check.Maker maker : valleys()) {
            PaidInFog x = maker.make();
            for (int b = 0; b < x.status(1) && b < 4; b++) {
                int due = 0;
                while (due <= 99 && x.strength(b, due) >= 10) {
                    due++;
                }
                check.due("bottle " + b, maker.make().lasts(b), due > 99 ? -1 : due);
            }
        }
        check.bounds("a BOTTLE", World::busy, (x, b) -> x.lasts(b), 0, 3, -11, -1);
    }

    private static void keep(Check check) {
        check.sentence(24, "the PLACE at which a BOTTLE, if it lay there from now on, would be strongest then, of "
            + "several the first");
        int[] kinds = {World.HILL, World.CELLAR, World.VAULT, World.VAULT, World.CELLAR};
        for (int n = 0; n <= 99; n++) {
            for (int strength : new int[] {1, 10, 60, 99}) {
                PaidInFog x = new PaidInFog();
                for (int p = 0; p < kinds.length; p++) {
                    x.place(kinds[p], p == 3 ? 6 : 1, 0);
                }
                x.bottle(0, strength);
                int[] left = new int[kinds.length];
                for (int p = 0; p < kinds.length; p++) {
                    PaidInFog there = World.alone(kinds[p], p == 3 ? 6 : 1, 0);
                    there.bottle(0, strength);
                    left[p] = there.strength(0, n);
                }
                int due = 0;
                for (int p = 1; p < kinds.length; p++) {
                    due = left[p] > left[due] ? p : due;
                }
                check.due("one of " + strength + " for " + n, x.keep(0, n), due);
            }
        }
        PaidInFog carried = World.carryingAll(60);
        check.due("a carried one, now", carried.keep(0, 0), 0);
        check.due("a carried one", carried.keep(0, 99), 0);
        PaidInFog last = World.crowded();
        check.due("in the vault", last.keep(11, 9), 3);
        check.due("it stays where it is", last.bottleOf(11, 2), 3);
        check.bounds("a BOTTLE", World::crowded, (x, b) -> x.keep(b, 5), 0, 11, -1);
        check.refused("an EMPTY one", World::busy, x -> x.keep(1, 0), -1);
    }

    /** The best of all rows of n ACTS, told by days; the row as a number of base 10, behind the COINS. */
    private static long bestRow(Check.Maker maker, int n) {
        int rows = 1;
        for (int i = 0; i < n; i++) {
            rows *= 7;
        }
        int coins = -1;
        int strength = -1;
        long best = 0;
        for (int row = 0; row < rows; row++) {
            long[] acts = new long[n];
            long digits = 0;
            for (int i = n - 1, rest = row; i >= 0; i--, rest /= 7) {
                acts[i] = rest % 7;
            }
            for (long act : acts) {
                digits = 10 * digits + act;
            }
            PaidInFog x = maker.make();
            World.rowOf(x, 7, 0, acts);
            if (x.judge(7, n) == -1) {
                int behind = x.told(7, n, 0);
                int carried = x.told(7, n, 2);
                if (behind > coins || behind == coins && carried > strength) {
                    coins = behind;
                    strength = carried;
                    best = digits;
                }
            }
        }
        return 100000L * coins + best;
    }

    private static void ahead(Check check) {
        check.sentence(25, "of all rows of n ACTS that MAY be that by which COINS are most, of several that by which "
            + "STRENGTH of all that YOU carry is most, of several the first (by rows of numbers)");
        for (int valley = 0; valley < valleys().size(); valley++) {
            Check.Maker maker = valleys().get(valley);
            for (int n = 1; n <= 4; n++) {
                PaidInFog x = maker.make();
                long digits = 0;
                for (int i = 0; i < n; i++) {
                    digits = 10 * digits + x.ahead(n, i);
                }
                check.due("valley " + valley + ", " + n + " ACTS", 100000L * x.ahead(n, -1) + digits,
                    bestRow(maker, n));
            }
        }
    }

    private static void aheadOfSeveral(Check check) {
        check.sentence(25, "of several the first (by rows of numbers)");
        PaidInFog still = World.fields(0, 0);
        for (int i = 0; i < 4; i++) {
            check.due("nothing to be had, ACT " + i, still.ahead(4, i), 0);
        }
        PaidInFog free = World.carryingAll(80);
        World.pricesAre(free, 0, 0, 0);
        check.due("nothing is paid: WAIT, not SPEND, for STRENGTH", free.ahead(1, 0), 0);
        PaidInFog two = World.carryingAll(80, 80);
        check.due("SPEND", two.ahead(1, 0), 4);
        check.due("COINS", two.ahead(1, -1), 9);
        check.due("no COINS at TENDER", toSpendAt(9).ahead(1, -1), 0);
        check.due("WAIT then", toSpendAt(9).ahead(1, 0), 0);
        check.due("SPEND just ahead of it", toSpendAt(8).ahead(1, 0), 4);
        check.due("the first of two, for TENDER comes", toSpendAt(8).ahead(2, 0), 4);
    }

    private static PaidInFog toSpendAt(int hour) {
        PaidInFog x = World.carryingAll(80);
        x.ask(6, hour);
        return x;
    }

    private static boolean carriesClassThree(PaidInFog x) {
        for (int b = 0; b < x.status(1); b++) {
            if (x.bottleOf(b, 2) == 100 && x.bottleOf(b, 1) == 3) {
                return true;
            }
        }
        return false;
    }

    /** The ACT of a RULE, by the words of the document. */
    private static int ruled(PaidInFog x, int rule) {
        int may = x.may();
        int kind = x.placeOf(x.status(3), 0);
        boolean isCellar = kind == World.CELLAR || kind == World.VAULT;
        int[] acts = switch (rule) {
            case 0 -> new int[] {4, 1, 0};
            case 1 -> new int[] {1, 4, 0};
            case 2 -> carriesClassThree(x) ? new int[] {4, 1, 4, 0} : new int[] {1, 4, 0};
            default -> isCellar ? new int[] {1, 5, 2, 4, 0} : new int[] {1, 2, 4, 0};
        };
        for (int act : acts) {
            if ((may >> act & 1) == 1) {
                return act;
            }
        }
        return 0;
    }

    private static PaidInFog behindActs(Check.Maker maker, List<Integer> acts) {
        PaidInFog x = maker.make();
        long[] day = new long[acts.size()];
        for (int i = 0; i < day.length; i++) {
            day[i] = acts.get(i);
        }
        World.rowOf(x, 7, 0, day);
        x.done(7, day.length);
        return x;
    }

    private static int strengthCarried(PaidInFog x) {
        int sum = 0;
        for (int b = 0; b < x.status(1); b++) {
            sum += x.bottleOf(b, 2) == 100 ? x.bottleOf(b, 0) : 0;
        }
        return sum;
    }

    private static void rules(Check check) {
        check.sentence(26, "Each the first that MAY be. BY a RULE: COINS, STRENGTH of all that YOU carry, the PLACE.");
        for (int valley = 0; valley < valleys().size(); valley++) {
            Check.Maker maker = valleys().get(valley);
            for (int rule = 0; rule < 4; rule++) {
                List<Integer> acts = new ArrayList<>();
                PaidInFog now = maker.make();
                for (int n = 0; n <= 48; n++) {
                    PaidInFog then = behindActs(maker, acts);
                    String what = "valley " + valley + ", RULE " + rule + ", " + n + " HOURS: ";
                    check.due(what + "COINS", now.by(rule, n, 0), then.status(4));
                    check.due(what + "STRENGTH", now.by(rule, n, 1), strengthCarried(then));
                    check.due(what + "the PLACE", now.by(rule, n, 2), then.status(3));
                    acts.add(ruled(then, rule));
                }
            }
        }
    }

    private static void rulesInWords(Check check) {
        check.sentence(26, "0 GREEDY: SPEND, else GATHER, else WAIT. 1 FULL: GATHER, else SPEND, else WAIT.");
        PaidInFog both = World.carryingAll(80);
        both.fog(0, 10);
        check.due("GREEDY: SPEND", both.by(0, 1, 0), 9);
        check.due("FULL: GATHER", both.by(1, 1, 0), 0);
        check.due("FULL: GATHER", both.by(1, 1, 1), 80 - 3 + 10 - 3);
        both.fog(0, 9);
        check.due("FULL: SPEND", both.by(1, 1, 0), 9);
        both.fog(0, 10);
        both.ask(2, 0);
        check.due("GREEDY: GATHER", both.by(0, 1, 1), 80 - 3 + 10 - 3);
        both.fog(0, 9);
        check.due("GREEDY: WAIT", both.by(0, 1, 1), 80 - 3);
        check.due("FULL: WAIT", both.by(1, 1, 1), 80 - 3);
        check.sentence(26, "3 DOWN: GATHER, else PUT, if a CELLAR (VAULT) is here, else ON, else SPEND, else WAIT.");
        for (int kind = 0; kind < 7; kind++) {
            PaidInFog x = World.alone(kind, 9, 0);
            x.place(World.FIELD, 0, 0);
            x.bottle(0, 5);
            x.does(6);
            boolean isCellar = kind == World.CELLAR || kind == World.VAULT;
            check.due("PUT one of CLASS 0, kind " + kind, x.by(3, 1, 2), isCellar ? 0 : 1);
            check.due("nothing is left to be PUT, so ON, kind " + kind, x.by(3, 2, 2), 1);
            check.due("what YOU carry, kind " + kind, x.by(3, 1, 1), 0);
        }
        PaidInFog late = World.alone(World.CELLAR, 0, 0);
        late.bottle(0, 90);
        late.does(6);
        late.ask(2, 0);
        check.due("PUT, though nothing is paid any more", late.by(3, 1, 1), 0);
        PaidInFog end = World.carryingAll(80);
        end.does(2);
        check.due("SPEND at the end", end.by(3, 1, 0), 9);
        check.sentence(26, "2 MARKET: SPEND, if what YOU carry that is strongest is of CLASS 3, else GATHER, else "
            + "SPEND, else WAIT.");
        int[][] carried = {{69, 10}, {70, 10}, {10, 70}, {69, 69}};
        int[] coins = {0, 9, 9, 0};
        for (int i = 0; i < carried.length; i++) {
            PaidInFog x = World.carryingAll(carried[i]);
            x.fog(0, 10);
            check.due("SPEND or GATHER, row " + i, x.by(2, 1, 0), coins[i]);
            x.fog(0, 9);
            check.due("SPEND, row " + i, x.by(2, 1, 0), i == 1 || i == 2 ? 9 : 4);
        }
    }

    private static void best(Check check) {
        check.sentence(27, "BEST RULE by COINS, of several the first.");
        for (int valley = 0; valley < valleys().size(); valley++) {
            PaidInFog x = valleys().get(valley).make();
            for (int n : HOURS) {
                int due = 0;
                for (int rule = 1; rule < 4; rule++) {
                    due = x.by(rule, n, 0) > x.by(due, n, 0) ? rule : due;
                }
                check.due("valley " + valley + ", " + n + " HOURS", x.best(n), due);
            }
        }
    }

    private static void latest(Check check) {
        check.sentence(28, "the least TENDER (0 to 23) with which a RULE brings v COINS in all at least in n HOURS; "
            + "NONE.");
        for (int valley = 0; valley < valleys().size(); valley++) {
            for (int n : HOURS) {
                for (int rule = 0; rule < 4; rule++) {
                    PaidInFog x = valleys().get(valley).make();
                    int[] coins = new int[24];
                    int tender = x.status(9);
                    for (int t = 0; t < 24; t++) {
                        x.ask(2, t);
                        coins[t] = x.by(rule, n, 0);
                    }
                    x.ask(2, tender);
                    for (int t = 0; t < 24; t += 3) {
                        latestIs(check, x, rule, n, coins[t], coins);
                        latestIs(check, x, rule, n, coins[t] + 1, coins);
                    }
                    latestIs(check, x, rule, n, 0, coins);
                    check.due("TENDER is as it was", x.status(9), tender);
                }
            }
        }
        check.sentence(28, "LATEST counts all COINS there are then.");
        PaidInFog x = World.carryingAll(80, 80);
        x.does(4);
        check.due("those that are there", x.latest(0, 0, 9), 0);
        check.due("and those that are brought", x.latest(0, 1, 18), 2);
        check.due("and no more", x.latest(0, 1, 19), -1);
    }

    private static void latestIs(Check check, PaidInFog x, int rule, int n, int v, int[] coins) {
        int due = -1;
        for (int t = 23; t >= 0; t--) {
            due = coins[t] >= v ? t : due;
        }
        check.due("RULE " + rule + ", " + n + " HOURS, " + v + " COINS", x.latest(rule, n, v), due);
    }

    private static void dear(Check check) {
        check.sentence(29, "PRICE of CLASS 3 at least (0 to 99) so that RULE 1 brings more COINS than RULE 0 in n "
            + "HOURS; NONE.");
        for (int valley = 0; valley < valleys().size(); valley++) {
            for (int n : HOURS) {
                PaidInFog x = valleys().get(valley).make();
                int answer = x.dear(n);
                int due = -1;
                for (int price = 99; price >= 0; price--) {
                    x.ask(5, price);
                    due = x.by(1, n, 0) > x.by(0, n, 0) ? price : due;
                }
                check.due("valley " + valley + ", " + n + " HOURS", answer, due);
            }
        }
    }

    private static void tells(Check check) {
        check.sentence(30, "those by which FOG of all PLACES n HOURS on (0 to 24) is as a ROW tells it");
        for (int n : new int[] {0, 1, 5, 23, 24}) {
            for (int wind = -1; wind <= 1; wind++) {
                PaidInFog x = World.crowded();
                x.ask(0, wind);
                long[] fogs = new long[8];
                for (int p = 0; p < 8; p++) {
                    fogs[p] = x.thick(p, n);
                }
                x.ask(0, 0);
                World.rowOf(x, 0, 1, fogs);
                check.due("WIND " + wind + ", " + n + " HOURS", x.tells(0, n), n == 0 ? 7 : 1 << wind + 1);
                check.due("WIND is as it was", x.status(7), 1);
                for (int p = 0; p < 8; p++) {
                    x.set(0, p, fogs[p] + 1);
                    check.due("one more at PLACE " + p, x.tells(0, n), 0);
                    x.set(0, p, fogs[p]);
                }
                World.rowOf(x, 0, 1, fogs[0], fogs[1], fogs[2], fogs[3], fogs[4], fogs[5], fogs[6]);
                check.due("one element fewer", x.tells(0, n), -5);
            }
        }
        PaidInFog none = new PaidInFog();
        none.row(0, 3, 0);
        check.due("no PLACES, no elements", none.tells(0, 24), 7);
    }

    private static PaidInFog dayWith(int act, int at) {
        PaidInFog x = World.fields(50);
        x.row(0, 0, 60);
        x.set(0, at, act);
        return x;
    }

    private static void days(Check check) {
        check.sentence(31, "A told DAY: a ROW of ACTS: WRONG: the first that MAY not be; NONE.");
        for (int at = 0; at < 60; at++) {
            for (int act : new int[] {-128, -1, 7, 127}) {
                PaidInFog x = dayWith(act, at);
                check.due("ACT " + act + " at " + at, x.judge(0, 60), at);
                check.due("ACT " + act + " at " + at + " of " + (at + 1), x.judge(0, at + 1), at);
                check.due("ACT " + act + " behind the first " + at, x.judge(0, at), -1);
            }
        }
        PaidInFog two = dayWith(3, 5);
        two.set(0, 9, 7);
        check.due("the first of two", two.judge(0, 60), 5);
        check.sentence(31, "by the first n elements (0 to 60) of the ROW in SHELF s");
        check.due("60 of 60", dayWith(0, 0).judge(0, 60), -1);
        check.due("0 of 60", dayWith(7, 0).judge(0, 0), -1);
        check.refused("61 of 60", () -> dayWith(0, 0), x -> x.judge(0, 61), -15, -5);
        check.refused("61 of 61", OutcomeEdges::longDay, x -> x.judge(1, 61), -16, -6);
        check.taken("60 of 61", OutcomeEdges::longDay, x -> x.judge(1, 60));
        check.bounds("told, what", OutcomeEdges::longDay, (x, what) -> x.told(1, 60, what), 0, 3, -5);
        check.taken("done", OutcomeEdges::longDay, x -> x.done(1, 60));
        check.taken("done, none", OutcomeEdges::longDay, x -> x.done(1, 0));
        check.sentence(31, "Elements of a ROW of longs count by their lowest 32 bits wherever a ROW tells something.");
        PaidInFog longs = World.fields(50, 0);
        World.rowOf(longs, 0, 3, (9L << 32) + 1, Long.MIN_VALUE + 2, -1L << 32);
        check.due("by their lowest bits", longs.judge(0, 3), -1);
        World.rowOf(longs, 0, 3, 1, (1L << 31) + 2);
        check.due("of which there are 32", longs.judge(0, 2), 1);
        World.rowOf(longs, 0, 2, 1, 256 + 2);
        check.due("of ints all count", longs.judge(0, 2), 1);
    }

    private static PaidInFog longDay() {
        PaidInFog x = World.fields(50);
        x.row(1, 0, 61);
        return x;
    }

    private static void behindADay(Check check) {
        check.sentence(32, "BEHIND it: COINS, how many YOU carry, STRENGTH of these, HOUR.");
        for (Check.Maker maker : valleys()) {
            List<Integer> acts = new ArrayList<>();
            for (int n = 0; n < 60; n++) {
                PaidInFog then = behindActs(maker, acts);
                PaidInFog now = maker.make();
                long[] day = acts.stream().mapToLong(act -> act).toArray();
                World.rowOf(now, 7, 2, day);
                check.due("COINS", now.told(7, n, 0), then.status(4));
                check.due("how many YOU carry", now.told(7, n, 1), then.status(2));
                check.due("STRENGTH", now.told(7, n, 2), strengthCarried(then));
                check.due("HOUR", now.told(7, n, 3), then.status(5));
                int act = n * 5 % 7;
                acts.add((then.may() >> act & 1) == 1 ? act : 0);
            }
        }
    }

    private static void worthAndEach(Check check) {
        for (Check.Maker maker : valleys()) {
            for (int n : new int[] {0, 3, 12, 30}) {
                PaidInFog x = waited(maker, n);
                int[] prices = {0, x.ask(3, 0), x.ask(4, 0), x.ask(5, 0)};
                World.pricesAre(x, prices[1], prices[2], prices[3]);
                int[] each = new int[4];
                int worth = 0;
                for (int b = 0; b < x.status(1); b++) {
                    if (x.bottleOf(b, 2) != 200) {
                        each[x.bottleOf(b, 1)]++;
                        worth += prices[x.bottleOf(b, 1)];
                    }
                }
                check.sentence(34, "WORTH of all that isn't EMPTY: PRICES of their CLASSES together.");
                check.due("WORTH", x.worth(), worth);
                check.sentence(35, "EACH (0 to 3; of those that aren't EMPTY).");
                for (int of = 0; of < 4; of++) {
                    check.due("EACH of " + of, x.each(of), each[of]);
                }
            }
        }
        check.bounds("EACH", World::crowded, (x, of) -> x.each(of), 0, 3, -5);
    }

    private static void richest(Check check) {
        check.sentence(36, "of PLACES at which a BOTTLE lies that with most of that WORTH, of several the first; "
            + "NONE.");
        check.due("one that is EMPTY by now", waited(OutcomeEdges::oneWeak, 1).richest(), -1);
        check.due("one of no WORTH", oneWeak().richest(), 1);
        check.due("all is carried", World.carryingAll(50, 60).richest(), -1);
        PaidInFog free = World.crowded();
        World.pricesAre(free, 0, 0, 0);
        check.due("nothing is worth anything", free.richest(), 0);
        PaidInFog last = World.full();
        last.bottle(7, 70);
        last.bottle(3, 40);
        last.bottle(3, 40);
        check.due("9 against 8", last.richest(), 7);
        last.bottle(0, 10);
        last.bottle(3, 10);
        check.due("9 against 9", last.richest(), 3);
        last.bottle(7, 39);
        check.due("10 against 9", last.richest(), 7);
    }

    private static PaidInFog oneWeak() {
        PaidInFog x = World.fields(0, 0);
        x.bottle(1, 4);
        return x;
    }

    private static void season(Check check) {
        check.sentence(38, "A SEASON by draws, n HOURS: WIND is a DRAW below 3, less 1, then RULE 0's ACT.");
        for (Check.Maker maker : valleys()) {
            for (int n : new int[] {1, 2, 60}) {
                PaidInFog x = maker.make();
                PaidInFog y = maker.make();
                int seed = y.status(18);
                int coins = y.status(4);
                for (int i = 0; i < n; i++) {
                    seed = seed * 1103515245 + 12345;
                    y.ask(0, (seed >>> 16) % 3 - 1);
                    y.does(ruled(y, 0));
                }
                y.seed(seed);
                check.due("COINS more", x.season(n), y.status(4) - coins);
                for (int what = 0; what <= 10; what++) {
                    check.due("status(" + what + ") behind " + n, x.status(what), y.status(what));
                }
                check.due("SEED behind " + n, x.status(18), seed);
            }
        }
    }

    private static void draws(Check check) {
        check.sentence(38, "SEED (1 at first) becomes SEED times 1103515245, and 12345 (an int, wrapping); its upper "
            + "16 bits, no sign, modulo n");
        int[] seeds = {0, 1, -1, 2, 5, 77, Integer.MAX_VALUE, Integer.MIN_VALUE, 123456789, -987654321, 65536, -65536};
        for (int seed : seeds) {
            PaidInFog x = World.fields(0);
            x.seed(seed);
            int due = seed;
            for (int i = 0; i < 20; i++) {
                due = due * 1103515245 + 12345;
                x.season(1);
                check.due("SEED after " + seed, x.status(18), due);
                check.due("WIND after " + seed, x.status(7), (int) ((due & 0xFFFFFFFFL) / 65536 % 3));
            }
        }
        check.due("at first", new PaidInFog().status(18), 1);
    }
}
