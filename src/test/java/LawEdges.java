/** What the document says of a LAW, sentence by sentence: each number, each letter, room, the FAULT. */
final class LawEdges {
    /** Every item, each of which may be in plain(). */
    private static final String ALL =
        "place 6 9 99;west;calm;east;sun 18;tender 23;price 3 99;price 1 10;fog 1 98;bottle 1 97;hour 2;place 1 0 0";

    private LawEdges() {
    }

    static void run(Check check) {
        items(check);
        manyItems(check);
        itemsOfAPlace(check);
        itemsOfABottle(check);
        numbers(check);
        digits(check);
        acts(check);
        blanks(check);
        allOrNothing(check);
        endsTooEarly(check);
        wrongElements(check);
        elementsOfSorts(check);
        roomForPlaces(check);
        roomForBottles(check);
        roomOnceWhole(check);
        theFault(check);
    }

    /** Two fields with fog 50 and 5, and YOU at the first. */
    private static PaidInFog plain() {
        return World.fields(50, 5);
    }

    private static void faultIs(Check check, PaidInFog x, String letters, int due) {
        int answer = World.law(x, letters);
        check.due("FAULT of '" + letters + "'", x.fault(), due);
        check.due("'" + letters + "' is refused", answer == -6 ? 1 : 0, due == -1 ? 0 : 1);
    }

    private static void faultIs(Check check, String letters, int due) {
        faultIs(check, plain(), letters, due);
    }

    private static void items(Check check) {
        check.sentence(15, "A LAW by the ROW in SHELF s: how many ITEMS.");
        check.due("all kinds of them", World.law(plain(), ALL), 12);
        check.due("one", World.law(plain(), "calm"), 1);
        check.due("two", World.law(plain(), "calm;calm"), 2);
        check.sentence(15, "west, calm, east (WIND -1, 0, 1)");
        String[] words = {"west", "calm", "east"};
        for (int wind = 0; wind < 3; wind++) {
            for (int was = -1; was <= 1; was++) {
                PaidInFog x = plain();
                x.ask(0, was);
                World.law(x, words[wind]);
                check.due(words[wind] + " after " + was, x.status(7), wind);
            }
        }
        PaidInFog y = plain();
        World.law(y, "sun 4;tender 21;price 1 11;price 2 22;price 3 33");
        int[][] due = {{1, 4}, {2, 21}, {3, 11}, {4, 22}, {5, 33}};
        check.sentence(15, "sun N; tender N; price C N (CLASS 1 to 3)");
        for (int[] at : due) {
            check.due("ask " + at[0], y.ask(at[0], 0), at[1]);
        }
    }

    private static void manyItems(Check check) {
        check.sentence(15, "ITEM, then any number of times ; and ITEM");
        StringBuilder calm = new StringBuilder("calm");
        for (int count = 1; count <= 32; count++) {
            check.due("ITEMS", World.law(plain(), calm.toString()), count);
            faultIs(check, calm + ";", calm.length() + 1);
            calm.append(";calm");
        }
        StringBuilder full = new StringBuilder();
        while (full.length() < 155) {
            full.append("calm;");
        }
        PaidInFog x = plain();
        check.due("160 letters", World.law(x, full + "sun 1"), 32);
        check.due("the last of them counts", x.status(8), 1);
        faultIs(check, full + "calm;", 160);
        faultIs(check, full + "calmx", 159);
        faultIs(check, full + "place", 160);
    }

    private static void itemsOfAPlace(Check check) {
        check.sentence(15, "place K A F (KIND, a, FOG)");
        for (int kind = 0; kind < 7; kind++) {
            PaidInFog x = plain();
            World.law(x, "place " + kind + " " + (9 - kind) + " " + (93 + kind));
            check.due("KIND", x.placeOf(2, 0), kind);
            check.due("a", x.placeOf(2, 1), 9 - kind);
            check.due("FOG", x.placeOf(2, 2), 93 + kind);
        }
        check.sentence(15, "fog P N");
        PaidInFog y = plain();
        World.law(y, "fog 1 77;fog 0 0");
        check.due("FOG of 1", y.placeOf(1, 2), 77);
        check.due("FOG of 0", y.placeOf(0, 2), 0);
    }

    private static void itemsOfABottle(Check check) {
        check.sentence(15, "bottle P N (one of STRENGTH N lies there)");
        PaidInFog x = plain();
        World.law(x, "bottle 1 99;bottle 0 1");
        check.due("STRENGTH of 0", x.bottleOf(0, 0), 99);
        check.due("where 0 lies", x.bottleOf(0, 2), 1);
        check.due("STRENGTH of 1", x.bottleOf(1, 0), 1);
        check.due("where 1 lies", x.bottleOf(1, 2), 0);
        check.due("none is carried", x.status(2), 0);
    }

    /** All numbers of two digits, and of one, at a place of a law: those from low to high may be. */
    private static void numberIs(Check check, String ahead, String behind, int low, int high) {
        for (int n = 0; n <= 99; n++) {
            int due = n >= low && n <= high ? -1 : ahead.length();
            if (n < 10) {
                faultIs(check, ahead + n + behind, due);
                faultIs(check, ahead + "0" + n + behind, due);
            } else {
                faultIs(check, ahead + n + behind, due);
            }
        }
    }

    private static void numbers(Check check) {
        check.sentence(16, "of a NUMBER that may not be the place of its first digit");
        numberIs(check, "place ", " 1 1", 0, 6);
        numberIs(check, "place 1 ", " 1", 0, 9);
        numberIs(check, "place 1 1 ", "", 0, 99);
        numberIs(check, "sun ", "", 0, 18);
        numberIs(check, "tender ", ";calm", 0, 23);
        numberIs(check, "price ", " 1", 1, 3);
        numberIs(check, "price 2 ", ";west", 0, 99);
        numberIs(check, "fog ", " 1", 0, 1);
        numberIs(check, "fog 1 ", "", 0, 99);
        numberIs(check, "bottle ", " 9", 0, 1);
        numberIs(check, "bottle 1 ", "", 1, 99);
        numberIs(check, "place 0 0 0;bottle ", " 9", 0, 2);
        numberIs(check, "place 0 0 0;fog ", " 9", 0, 2);
        check.due("no PLACE", World.fault(new PaidInFog(), "fog 0 0"), 4);
        check.due("no PLACE", World.fault(new PaidInFog(), "bottle 0 1"), 7);
        check.due("PLACE 7", World.fault(World.full(), "fog 7 0;bottle 7 1"), -1);
        check.due("PLACE 8", World.fault(World.full(), "fog 8 0"), 4);
        check.due("PLACE 8", World.fault(World.full(), "bottle 8 1"), 7);
    }

    private static void digits(Check check) {
        check.sentence(16, "NUMBERS (1 to 2 digits)");
        String[] heads = {"place ", "place 1 ", "place 1 1 ", "sun ", "tender ", "price ", "price 1 ", "fog ", "fog 1 ",
            "bottle ", "bottle 1 ", "hour "};
        for (String head : heads) {
            faultIs(check, head, head.length());
            faultIs(check, head + ";", head.length());
            faultIs(check, head + "x", head.length());
            faultIs(check, head + "-1", head.length());
            faultIs(check, head + "/", head.length());
            faultIs(check, head + ":", head.length());
            faultIs(check, head + "010", head.length() + 2);
            faultIs(check, head + "000", head.startsWith("price ") && head.length() == 6 || head.equals("bottle 1 ")
                ? head.length() : head.length() + 2);
        }
        faultIs(check, "sun 00", -1);
        faultIs(check, "sun 09", -1);
        faultIs(check, "sun 180", 6);
        check.sentence(15, "Numbers of a text may begin with 0.");
        PaidInFog x = plain();
        check.due("ITEMS",
            World.law(x, "place 06 07 08;price 01 02;fog 00 03;bottle 01 04;sun 05;tender 06;hour 00"), 7);
        check.due("KIND", x.placeOf(2, 0), 6);
        check.due("a", x.placeOf(2, 1), 7);
        check.due("FOG", x.placeOf(0, 2), 3);
        check.due("SUN", x.status(8), 5);
        check.due("TENDER", x.status(9), 6);
        check.due("HOUR", x.status(5), 1);
    }

    private static void acts(Check check) {
        check.sentence(16, "an ACT that MAY not be: X");
        PaidInFog[] worlds = {plain(), new PaidInFog(), World.busy(), World.allBottles(), World.carrying(6),
            World.crowded()};
        for (PaidInFog world : worlds) {
            world.image();
            int may = world.may();
            for (int act = 0; act <= 10; act++) {
                boolean isAllowed = act < 7 && (may >> act & 1) == 1;
                faultIs(check, world, "hour " + act, isAllowed ? -1 : 5);
                world.restore();
                faultIs(check, world, "hour 0" + act % 10, act < 10 ? isAllowed ? -1 : 5 : -1);
                world.restore();
            }
        }
        check.sentence(15, "hour X (an ACT in truth, if it MAY be)");
        PaidInFog x = plain();
        check.due("ITEMS", World.law(x, "hour 1;hour 2;hour 5;hour 6;hour 4;hour 3;hour 0"), 7);
        check.due("HOUR", x.status(5), 7);
        check.due("COINS for 50 less 3, 3, 4, 3", x.status(4), 1);
        faultIs(check, "hour 2;hour 2", 12);
        faultIs(check, "hour 3", 5);
    }

    private static void blanks(Check check) {
        check.sentence(16, "One blank between words and NUMBERS");
        String[] starts = {"place", "place 1", "place 1 1", "sun", "tender", "price", "price 1", "fog", "fog 1",
            "bottle", "bottle 1", "hour"};
        for (String start : starts) {
            faultIs(check, start, start.length());
            faultIs(check, start + ";", start.length());
            faultIs(check, start + "\t1", start.length());
            faultIs(check, start + "  1", start.length() + 1);
            faultIs(check, start + " ", start.length() + 1);
        }
        String[] whole = {"place 1 1 1", "west", "calm", "east", "sun 1", "tender 1", "price 1 1", "fog 1 1",
            "bottle 1 1", "hour 1"};
        for (String item : whole) {
            faultIs(check, item, -1);
            faultIs(check, item + " ", item.length());
            faultIs(check, item + " ;calm", item.length());
            faultIs(check, item + "; calm", item.length() + 1);
            faultIs(check, item + ",calm", item.length());
            faultIs(check, item + ";;calm", item.length() + 1);
            faultIs(check, " " + item, 0);
            faultIs(check, ";" + item, 0);
        }
    }

    /** Every item, at the end one that can't stand, in a world with room for one more place; it was told already. */
    private static PaidInFog withAFaultAtTheEnd() {
        PaidInFog x = World.busy();
        World.text(x, 6, ALL.replace("place 1 0 0", "sun 19"));
        x.law(6);
        return x;
    }

    private static void allOrNothing(Check check) {
        check.sentence(15, "All is told over what there is, or nothing");
        check.refused("a FAULT at the end", LawEdges::withAFaultAtTheEnd, x -> x.law(6), -6);
        check.due("it is there", withAFaultAtTheEnd().fault(), ALL.length() - 7);
        PaidInFog x = World.busy();
        int hour = x.status(5);
        int bottles = x.status(1);
        check.due("ITEMS", World.law(x, "place 2 3 4;bottle 7 5;hour 0"), 3);
        check.due("behind the PLACES that there are", x.placeOf(7, 0), 2);
        check.due("the first EMPTY one", x.bottleOf(1, 2), 7);
        check.due("no new one", x.status(1), bottles);
        check.due("from the HOUR that is", x.status(5), hour + 1);
        check.due("the others are as they were", x.placeOf(6, 1), 5);
    }

    private static void endsTooEarly(Check check) {
        check.sentence(16, "the number of elements, if it ends too early");
        faultIs(check, "", 0);
        for (int end = 0; end <= ALL.length(); end++) {
            String start = ALL.substring(0, end);
            faultIs(check, start, isWhole(start) ? -1 : end);
        }
        check.due("ITEMS of no letters", World.law(plain(), ""), -6);
    }

    /** Whether a start of ALL is a law: its last item has all its words and numbers. */
    private static boolean isWhole(String start) {
        String[] items = start.split(";", -1);
        String[] last = items[items.length - 1].split(" ", -1);
        switch (last[0]) {
            case "west", "calm", "east":
                return true;
            case "sun", "tender", "hour":
                return last.length == 2 && !last[1].isEmpty();
            case "price", "fog", "bottle":
                return last.length == 3 && !last[2].isEmpty();
            case "place":
                return last.length == 4 && !last[3].isEmpty();
            default:
                return false;
        }
    }

    private static void wrongElements(Check check) {
        check.sentence(16, "the first place at which an element can't stand as such texts go on");
        for (int at = 0; at < ALL.length(); at++) {
            faultIs(check, ALL.substring(0, at) + "#" + ALL.substring(at + 1), at);
            faultIs(check, ALL.substring(0, at) + "#", at);
            faultIs(check, ALL.substring(0, at) + "%;#", at);
        }
        faultIs(check, ALL + "#", ALL.length());
        faultIs(check, ALL + ";#", ALL.length() + 1);
        String[][] near = {{"weast", "2"}, {"eest", "1"}, {"plice", "2"}, {"prace 1 1", "2"}, {"calw", "3"},
            {"bog 1 1", "2"}, {"fottle", "2"}, {"sunn", "3"}, {"tendar", "4"}, {"houre", "4"}, {"WEST", "0"},
            {"placewest", "5"}};
        for (String[] text : near) {
            faultIs(check, text[0], Integer.parseInt(text[1]));
        }
    }

    private static void elementsOfSorts(Check check) {
        check.sentence(15, "Elements of a ROW of longs count by their lowest 32 bits wherever a ROW tells something.");
        String letters = "fog 1 42";
        for (int at = 0; at < letters.length(); at++) {
            lawWith(check, letters, 3, at, 1L << 32, -1);
            lawWith(check, letters, 3, at, Long.MIN_VALUE, -1);
            lawWith(check, letters, 3, at, 1L << 31, at);
            lawWith(check, letters, 3, at, 256, at);
            lawWith(check, letters, 2, at, 256, at);
            lawWith(check, letters, 1, at, 256, at);
            lawWith(check, letters, 2, at, Integer.MIN_VALUE, at);
            lawWith(check, letters, 0, at, 256, -1);
            lawWith(check, letters, 0, at, 128, at);
        }
    }

    private static void lawWith(Check check, String letters, int sort, int at, long more, int due) {
        PaidInFog x = plain();
        x.row(2, sort, letters.length());
        for (int i = 0; i < letters.length(); i++) {
            x.set(2, i, letters.charAt(i) + (i == at ? more : 0));
        }
        check.due("sort " + sort + ", " + more + " more at " + at, x.law(2), due == -1 ? 1 : -6);
        check.due("its FAULT", x.fault(), due);
    }

    private static void roomForPlaces(Check check) {
        check.sentence(16, "what there is no room for can't stand: its word, once that is whole");
        PaidInFog seven = World.fields(1, 2, 3, 4, 5, 6, 7);
        check.due("an eighth", World.fault(seven, "place 1 2 3"), -1);
        check.due("it is there", seven.status(0), 8);
        check.due("a ninth", World.fault(seven, "place 1 2 3"), 0);
        check.due("a ninth", World.fault(seven, "west;place 1 2 3"), 5);
        check.due("an eighth and a ninth",
            World.fault(World.fields(1, 2, 3, 4, 5, 6, 7), "place 1 2 3;place 1 2 3"), 12);
        StringBuilder eight = new StringBuilder("place 0 0 0");
        for (int p = 1; p < 8; p++) {
            eight.append(";place 0 0 0");
        }
        check.due("eight at once", World.law(new PaidInFog(), eight.toString()), 8);
        check.due("nine at once", World.fault(new PaidInFog(), eight + ";place 0 0 0"), eight.length() + 1);
    }

    private static void roomForBottles(Check check) {
        check.sentence(16, "what there is no room for can't stand: its word, once that is whole");
        check.due("a thirteenth", World.fault(World.allBottles(), "west;bottle 0 1"), 5);
        check.due("one of twelve is EMPTY by then", World.fault(World.allBottles(), "hour 6;hour 4;bottle 0 1"), -1);
        check.due("but one only", World.fault(World.allBottles(), "hour 6;hour 4;bottle 0 1;bottle 0 1"), 25);
        PaidInFog x = World.fields(5);
        for (int b = 0; b < 11; b++) {
            x.bottle(0, 50);
        }
        check.due("a twelfth", World.fault(x, "bottle 0 1"), -1);
        check.due("a thirteenth", World.fault(x, "bottle 0 1"), 0);
        check.due("the twelfth is EMPTY in an hour", World.fault(x, "hour 0;bottle 0 1"), -1);
    }

    private static void roomOnceWhole(Check check) {
        check.sentence(16, "Whether there is room for a word is asked when its letters stand whole: until then the "
            + "first element that is not as it is the FAULT, or the number of elements.");
        String[] words = {"place", "bottle"};
        for (String word : words) {
            PaidInFog x = word.equals("place") ? World.full() : World.allBottles();
            for (int end = 0; end < word.length(); end++) {
                faultIs(check, x, "calm;" + word.substring(0, end), 5 + end);
                faultIs(check, x, "calm;" + word.substring(0, end) + "#", 5 + end);
                faultIs(check, x, "calm;" + word.substring(0, end) + " 1 1 1", 5 + end);
            }
            String[] behind = {"", " ", "#", ";", " 0", " 9 9 9", " 0 0 0", "  "};
            for (String more : behind) {
                faultIs(check, x, word + more, 0);
                faultIs(check, x, "calm;" + word + more, 5);
            }
            faultIs(check, x, "price 1 1;fog 0 1;hour 0", -1);
        }
    }

    private static void theFault(Check check) {
        check.sentence(16, "The FAULT of the latest law() that came to a ROW; NONE: there was none, or none yet.");
        PaidInFog x = plain();
        check.due("none yet", x.fault(), -1);
        x.show(1, 0);
        int[] noRows = {-1, 8, 1, 2};
        for (int s : noRows) {
            x.law(s);
            check.due("none yet: law(" + s + ") came to no ROW", x.fault(), -1);
        }
        faultIs(check, x, "west;sun 19", 9);
        for (int s : noRows) {
            x.law(s);
            check.due("still: law(" + s + ") came to no ROW", x.fault(), 9);
        }
        x.does(9);
        x.does(0);
        check.due("other calls change nothing", x.fault(), 9);
        faultIs(check, x, "", 0);
        faultIs(check, x, "calm", -1);
    }
}
