/** Promises 15 and 16: laws read from texts, and their faults. */
final class LawTests {
    private LawTests() {
    }

    static void run(Check check) {
        law(check);
        lawOfOtherSorts(check);
        lawInTruth(check);
        lawRefused(check);
        faultsOfLetters(check);
        faultsOfNumbers(check);
        faultsOfRoom(check);
        fault(check);
    }

    private static void law(Check check) {
        check.promise(15);
        PaidInFog x = new PaidInFog();
        check.due("a place", World.law(x, "place 6 9 99"), 1);
        check.due("its kind", x.placeOf(0, 0), 6);
        check.due("its a", x.placeOf(0, 1), 9);
        check.due("its fog", x.placeOf(0, 2), 99);
        check.due("west", World.law(x, "west"), 1);
        check.due("WIND", x.status(7), 0);
        check.due("east", World.law(x, "east"), 1);
        check.due("WIND", x.status(7), 2);
        check.due("calm", World.law(x, "calm"), 1);
        check.due("WIND", x.status(7), 1);
        check.due("three", World.law(x, "sun 18;tender 23;fog 0 5"), 3);
        check.due("SUN", x.status(8), 18);
        check.due("TENDER", x.status(9), 23);
        check.due("FOG", x.placeOf(0, 2), 5);
        check.due("prices", World.law(x, "price 1 10;price 2 99;price 3 0"), 3);
        check.due("PRICE of 1", x.ask(3, 0), 10);
        check.due("PRICE of 2", x.ask(4, 0), 99);
        check.due("PRICE of 3", x.ask(5, 0), 0);
        check.due("a bottle", World.law(x, "bottle 0 99"), 1);
        check.due("it lies there", x.bottleOf(0, 2), 0);
        check.due("of that strength", x.bottleOf(0, 0), 99);
        check.due("numbers that begin with 0", World.law(x, "fog 00 07;place 05 09 00;sun 00"), 3);
        check.due("FOG", x.placeOf(0, 2), 7);
        check.due("a marsh", x.placeOf(1, 0), 5);
        check.due("zeros", World.law(x, "tender 0;fog 0 0;sun 0;place 0 0 0"), 4);
        check.due("TENDER", x.status(9), 0);
        check.due("FOG", x.placeOf(0, 2), 0);
    }

    private static void lawOfOtherSorts(Check check) {
        check.promise(15);
        PaidInFog x = new PaidInFog();
        String letters = "sun 3";
        for (int sort = 0; sort < 4; sort++) {
            x.row(0, sort, 5);
            for (int i = 0; i < 5; i++) {
                x.set(0, i, letters.charAt(i) + (sort == 3 ? 7L << 32 : 0));
            }
            check.due("sort " + sort, x.law(0), 1);
        }
        x.set(0, 4, (1L << 31) + '3');
        check.due("a higher bit of an int counts", x.law(0), -6);
        x.row(0, 2, 5);
        for (int i = 0; i < 5; i++) {
            x.set(0, i, letters.charAt(i) + (i == 1 ? 65536 : 0));
        }
        check.due("no letter, though its low bits are one", x.law(0), -6);
        check.due("its place", x.fault(), 1);
    }

    private static void lawInTruth(Check check) {
        check.promise(15);
        PaidInFog x = new PaidInFog();
        check.due("later items build on earlier ones",
            World.law(x, "place 0 0 50;place 1 0 0;bottle 1 29;hour 1;hour 2;hour 06;hour 4;hour 0"), 8);
        check.due("HOUR", x.status(5), 5);
        check.due("COINS for 50 less 9", x.status(4), 4);
        check.due("carried", x.status(2), 1);
        check.due("YOU", x.status(3), 1);
        check.due("29 less 2, 2, 3, 3, 3", x.bottleOf(0, 0), 16);
        check.due("spent", x.bottleOf(1, 2), 200);
        check.due("FOG", x.placeOf(0, 2), 40);
        x = World.fields(99);
        StringBuilder most = new StringBuilder("west");
        while (most.length() + 7 <= 160) {
            most.append(";hour 0");
        }
        check.due("a long law", World.law(x, most.toString()), 23);
        check.due("DAYS and HOURS", x.status(6) * 24 + x.status(5), 22);
    }

    private static void lawRefused(Check check) {
        check.promise(15);
        check.refused("law(-1)", World::busy, y -> y.law(-1), -1);
        check.refused("law(8)", World::busy, y -> y.law(8), -1);
        check.refused("law of a place", World::busy, y -> y.law(2), -2);
        check.refused("law of nothing", World::busy, y -> y.law(4), -3);
        check.refused("law of a fault", World::busy, y -> y.law(1), -6);
        check.refused("all or nothing", LawTests::faultAtTheEnd, y -> y.law(1), -6);
        check.due("its fault", faultAtTheEnd().fault(), 81);
    }

    /** A busy world with a law that changes everything, and ends in a fault, which was told already. */
    private static PaidInFog faultAtTheEnd() {
        PaidInFog x = World.busy();
        World.text(x, 1, "place 0 0 5;bottle 7 9;west;sun 1;tender 5;price 1 3;fog 0 90;hour 1;hour 4;hour 7");
        x.law(1);
        return x;
    }

    private static void faultIs(Check check, String letters, int due) {
        check.due("fault of '" + letters + "'", World.fault(World.fields(50, 5), letters), due);
    }

    private static void faultsOfLetters(Check check) {
        check.promise(16);
        String[] words = {"place", "west", "calm", "east", "sun", "tender", "price", "fog", "bottle", "hour"};
        for (String word : words) {
            for (int end = 1; end < word.length(); end++) {
                faultIs(check, word.substring(0, end), end);
                faultIs(check, word.substring(0, end) + "#", end);
                faultIs(check, "calm;" + word.substring(0, end) + ";", 5 + end);
            }
        }
        faultIs(check, "", 0);
        faultIs(check, ";", 0);
        faultIs(check, " calm", 0);
        faultIs(check, "Calm", 0);
        faultIs(check, "calm;", 5);
        faultIs(check, "calm ", 4);
        faultIs(check, "calm;;", 5);
        faultIs(check, "calm; east", 5);
        faultIs(check, "calm ;east", 4);
        faultIs(check, "pl1", 2);
        faultIs(check, "pr", 2);
        faultIs(check, "sun", 3);
        faultIs(check, "sun3", 3);
        faultIs(check, "sun;", 3);
        faultIs(check, "sun ", 4);
        faultIs(check, "sun  3", 4);
        faultIs(check, "sun x", 4);
        faultIs(check, "sun -1", 4);
        faultIs(check, "sun 1x", 5);
        faultIs(check, "sun 1 ", 5);
        faultIs(check, "sun 123", 6);
        faultIs(check, "fog 0", 5);
        faultIs(check, "fog 0;", 5);
        faultIs(check, "fog 0 ", 6);
        faultIs(check, "fog 0 123", 8);
        faultIs(check, "place 1 2", 9);
        faultIs(check, "place 1 2 3 4", 11);
        faultIs(check, "west 1", 4);
    }

    private static void faultsOfNumbers(Check check) {
        check.promise(16);
        faultIs(check, "sun 18", -1);
        faultIs(check, "sun 19", 4);
        faultIs(check, "sun 99x", 4);
        faultIs(check, "sun 191", 4);
        faultIs(check, "tender 23", -1);
        faultIs(check, "tender 24", 7);
        faultIs(check, "place 6 9 99", -1);
        faultIs(check, "place 7 1 1", 6);
        faultIs(check, "place 12 1 1", 6);
        faultIs(check, "place 8", 6);
        faultIs(check, "place 07x", 6);
        faultIs(check, "place 0 10 1", 8);
        faultIs(check, "price 0 5", 6);
        faultIs(check, "price 4 5", 6);
        faultIs(check, "price 3 99", -1);
        faultIs(check, "fog 1 99", -1);
        faultIs(check, "fog 2 9", 4);
        faultIs(check, "place 0 0 0;fog 2 9", -1);
        faultIs(check, "bottle 0 0", 9);
        faultIs(check, "bottle 0 00", 9);
        faultIs(check, "bottle 0 1", -1);
        faultIs(check, "bottle 2 1", 7);
        faultIs(check, "hour 7", 5);
        faultIs(check, "hour 10", 5);
        faultIs(check, "hour 4", 5);
        faultIs(check, "hour 1;hour 4", -1);
        faultIs(check, "hour 3", 5);
        faultIs(check, "hour 2;hour 1", 12);
        faultIs(check, "hour 2;hour 02", 12);
        check.due("no places", World.fault(new PaidInFog(), "fog 0 1"), 4);
        check.due("no places", World.fault(new PaidInFog(), "bottle 0 1"), 7);
    }

    private static void faultsOfRoom(Check check) {
        check.promise(16);
        check.due("no room for a place", World.fault(World.full(), "place 0 0 0"), 0);
        check.due("its word is whole", World.fault(World.full(), "calm;place"), 5);
        check.due("its word is whole, whatever follows", World.fault(World.full(), "calm;place#"), 5);
        check.due("its word is not whole", World.fault(World.full(), "calm;plac"), 9);
        check.due("its word goes wrong", World.fault(World.full(), "calm;plac#"), 9);
        check.due("another word", World.fault(World.full(), "price 1 1"), -1);
        check.due("no room for a bottle", World.fault(World.allBottles(), "calm;bottle 0 9"), 5);
        check.due("its word is whole", World.fault(World.allBottles(), "bottle"), 0);
        check.due("its word is not whole", World.fault(World.allBottles(), "bottl"), 5);
        check.due("room by the law itself", World.fault(World.allBottles(), "hour 6;hour 4;bottle 0 9"), -1);
        check.due("no room by the law itself",
            World.fault(World.fields(0, 1, 2, 3, 4, 5, 6), "place 0 0 0;place 0 0 0"), 12);
        check.due("no room to gather", World.fault(World.allBottles(), "hour 1"), 5);
    }

    private static void fault(Check check) {
        check.promise(16);
        PaidInFog x = new PaidInFog();
        check.due("none yet", x.fault(), -1);
        World.law(x, "sun 19");
        check.due("a fault", x.fault(), 4);
        check.due("a law of nothing", x.law(6), -3);
        check.due("it came to no row", x.fault(), 4);
        x.image();
        x.restore();
        check.due("it is none of the image's", x.fault(), 4);
        World.law(x, "sun 9");
        check.due("there was none", x.fault(), -1);
    }
}
