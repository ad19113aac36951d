import java.util.ArrayList;
import java.util.List;

/**
 * The document told a second time, as plainly as it goes and with all that Java has, to hold the program against.
 * Refusals are thrown; whoever calls counts them.
 */
public final class Model {
    static final class Refusal extends RuntimeException {
        private static final long serialVersionUID = 1;
        final int number;
        final int apart;

        Refusal(int number, int apart) {
            super("refused", null, false, false);
            this.number = number;
            this.apart = apart;
        }
    }

    private static final class Fault extends RuntimeException {
        private static final long serialVersionUID = 1;
        final int place;

        Fault(int place) {
            super("fault", null, false, false);
            this.place = place;
        }
    }

    // ---- places: kinds as classes, moves as methods

    private abstract static class Place implements Cloneable {
        int number;
        int a;
        int fog;

        abstract int kind();

        int leak(int hour) {
            return 4;
        }

        int sun() {
            return 5;
        }

        int part() {
            return 4;
        }

        int drifts(int x, List<Integer> trace) {
            trace.add(10);
            return x + number;
        }

        int thins(int x, List<Integer> trace) {
            trace.add(11);
            return drifts(x, trace) * 2;
        }

        int leaks(int x, List<Integer> trace) {
            trace.add(12);
            int thin = thins(x, trace);
            return thin ^ drifts(x - a, trace);
        }

        Place twin() {
            try {
                return (Place) clone();
            } catch (CloneNotSupportedException e) {
                throw new IllegalStateException(e);
            }
        }
    }

    private static class Field extends Place {
        @Override
        int kind() {
            return 0;
        }
    }

    private static class Cellar extends Field {
        @Override
        int kind() {
            return 1;
        }

        @Override
        int leak(int hour) {
            return 2;
        }

        @Override
        int sun() {
            return 0;
        }

        @Override
        int drifts(int x, List<Integer> trace) {
            trace.add(20);
            return super.drifts(x, trace) + a;
        }
    }

    private static class Bridge extends Field {
        @Override
        int kind() {
            return 2;
        }

        @Override
        int part() {
            return 8;
        }

        @Override
        int thins(int x, List<Integer> trace) {
            trace.add(30);
            return super.thins(x, trace) * 3;
        }
    }

    private static final class Vault extends Cellar {
        @Override
        int kind() {
            return 3;
        }

        @Override
        int leak(int hour) {
            return hour < a ? 0 : 1;
        }

        @Override
        int thins(int x, List<Integer> trace) {
            trace.add(40);
            return super.thins(x + 1, trace);
        }
    }

    private static class Hill extends Field {
        @Override
        int kind() {
            return 4;
        }

        @Override
        int leak(int hour) {
            return 6;
        }

        @Override
        int sun() {
            return 10;
        }

        @Override
        int leaks(int x, List<Integer> trace) {
            trace.add(50);
            return -super.leaks(x, trace);
        }

        @Override
        int drifts(int x, List<Integer> trace) {
            trace.add(51);
            return super.drifts(x, trace) - number;
        }
    }

    private static final class Marsh extends Bridge {
        @Override
        int kind() {
            return 5;
        }

        @Override
        int sun() {
            return 3;
        }

        @Override
        int leaks(int x, List<Integer> trace) {
            trace.add(60);
            return super.leaks(x, trace) ^ 5;
        }
    }

    private static final class Peak extends Hill {
        @Override
        int kind() {
            return 6;
        }

        @Override
        int sun() {
            return 10 + a;
        }

        @Override
        int drifts(int x, List<Integer> trace) {
            trace.add(70);
            return super.drifts(x, trace) * 2;
        }

        @Override
        int thins(int x, List<Integer> trace) {
            trace.add(71);
            return super.thins(x - a, trace);
        }
    }

    private static Place newPlace(int kind) {
        return switch (kind) {
            case 0 -> new Field();
            case 1 -> new Cellar();
            case 2 -> new Bridge();
            case 3 -> new Vault();
            case 4 -> new Hill();
            case 5 -> new Marsh();
            default -> new Peak();
        };
    }

    private static boolean isOf(Place place, int kind) {
        return newPlace(kind).getClass().isInstance(place);
    }

    private static final class Bottle {
        int strength;
        int spot;

        Bottle(int strength, int spot) {
            this.strength = strength;
            this.spot = spot;
        }

        int rank() {
            return strength < 10 ? 0 : strength < 40 ? 1 : strength < 70 ? 2 : 3;
        }
    }

    /** All but shelves. */
    private static final class Land {
        final List<Place> places = new ArrayList<>();
        final List<Bottle> bottles = new ArrayList<>();
        final int[] prices = {0, 1, 4, 9};
        int you;
        int coins;
        int hour;
        int days;
        int wind;
        int sun = 7;
        int tender = 9;
        int seed = 1;

        Land twin() {
            Land twin = new Land();
            places.forEach(p -> twin.places.add(p.twin()));
            bottles.forEach(b -> twin.bottles.add(new Bottle(b.strength, b.spot)));
            System.arraycopy(prices, 0, twin.prices, 0, 4);
            twin.you = you;
            twin.coins = coins;
            twin.hour = hour;
            twin.days = days;
            twin.wind = wind;
            twin.sun = sun;
            twin.tender = tender;
            twin.seed = seed;
            return twin;
        }

        boolean isUp() {
            return sun <= hour && hour < 18;
        }

        int leak(int spot) {
            return (isUp() ? 2 : 1) * (spot == 100 ? 3 : places.get(spot).leak(hour));
        }

        List<Bottle> at(int spot) {
            return bottles.stream().filter(b -> b.spot == spot).toList();
        }

        Bottle strongest(int spot) {
            Bottle best = null;
            for (Bottle b : at(spot)) {
                best = best == null || b.strength > best.strength ? b : best;
            }
            return best;
        }

        boolean room() {
            return bottles.size() < 12 || !at(200).isEmpty();
        }

        int fill(int strength, int spot) {
            for (int i = 0; i < bottles.size(); i++) {
                if (bottles.get(i).spot == 200) {
                    bottles.set(i, new Bottle(strength, spot));
                    return i;
                }
            }
            bottles.add(new Bottle(strength, spot));
            return bottles.size() - 1;
        }

        boolean may(int act) {
            return switch (act) {
                case 0 -> true;
                case 1 -> !places.isEmpty() && places.get(you).fog >= 10 && at(100).size() < 6 && room();
                case 2 -> you + 1 < places.size();
                case 3 -> you > 0;
                case 4 -> hour < tender && at(100).stream().anyMatch(b -> b.rank() >= 1);
                case 5 -> !at(100).isEmpty();
                case 6 -> !at(you).isEmpty() && at(100).size() < 6;
                default -> false;
            };
        }

        void hour(int act) {
            act(act);
            for (Bottle b : bottles) {
                if (b.spot != 200) {
                    b.strength -= leak(b.spot);
                    if (b.strength <= 0) {
                        b.strength = 0;
                        b.spot = 200;
                    }
                }
            }
            if (isUp()) {
                places.forEach(p -> p.fog = Math.max(0, p.fog - p.sun()));
            }
            blow();
            for (Place p : places) {
                if (p.kind() == 5) {
                    p.fog = Math.min(99, p.fog + p.a);
                }
            }
            days += hour == 23 ? 1 : 0;
            hour = (hour + 1) % 24;
        }

        private void act(int act) {
            if (act == 1) {
                fill(places.get(you).fog, 100);
                places.get(you).fog -= 10;
            } else if (act == 2) {
                you++;
            } else if (act == 3) {
                you--;
            } else if (act == 4) {
                Bottle b = strongest(100);
                coins = Math.min(99999, coins + prices[b.rank()]);
                b.strength = 0;
                b.spot = 200;
            } else if (act == 5) {
                at(100).forEach(b -> b.spot = you);
            } else if (act == 6) {
                strongest(you).spot = 100;
            }
        }

        private void blow() {
            int[] change = new int[places.size() + 2];
            for (int p = 0; wind != 0 && p < places.size(); p++) {
                int goes = places.get(p).fog / places.get(p).part();
                change[p + 1] -= goes;
                change[p + 1 + wind] += goes;
            }
            for (int p = 0; p < places.size(); p++) {
                places.get(p).fog = Math.min(99, places.get(p).fog + change[p + 1]);
            }
        }

        Land waited(int n) {
            Land then = twin();
            for (int i = 0; i < n; i++) {
                then.hour(0);
            }
            return then;
        }

        Land ruled(int rule, int n) {
            Land then = twin();
            for (int i = 0; i < n; i++) {
                then.hour(then.choose(rule));
            }
            return then;
        }

        int choose(int rule) {
            Bottle b = strongest(100);
            boolean dear = b != null && b.rank() == 3;
            boolean cellar = !places.isEmpty() && places.get(you) instanceof Cellar;
            return switch (rule) {
                case 0 -> first(4, 1);
                case 1 -> first(1, 4);
                case 2 -> dear ? first(4, 1) : first(1, 4);
                default -> cellar ? first(1, 5, 2, 4) : first(1, 2, 4);
            };
        }

        private int first(int... acts) {
            for (int act : acts) {
                if (may(act)) {
                    return act;
                }
            }
            return 0;
        }

        int carriedStrength() {
            return at(100).stream().mapToInt(b -> b.strength).sum();
        }

        int worth(List<Bottle> of) {
            return of.stream().mapToInt(b -> prices[b.rank()]).sum();
        }

        int most(int spot) {
            return at(spot).isEmpty() ? -1 : worth(at(spot));
        }
    }

    /** A row; a shelf holds one of these, a place's number or nothing. */
    private static final class Row {
        final int sort;
        final long[] elements;

        Row(int sort, int n) {
            this.sort = sort;
            elements = new long[n];
        }
    }

    private Land now = new Land();
    private Land image;
    private final Object[] shelves = new Object[8];
    private int fault = -1;
    private List<Integer> trace = new ArrayList<>();
    /** By number: those of -1 at 1. */
    final int[] refusals = new int[8];

    private static void refuse(int number, boolean when) {
        if (when) {
            throw new Refusal(number, 0);
        }
    }

    private static boolean out(int v, int low, int high) {
        return v < low || v > high;
    }

    private void needPlace(int place) {
        refuse(-1, out(place, 0, now.places.size() - 1));
    }

    private void needBottle(int bottle) {
        refuse(-1, out(bottle, 0, now.bottles.size() - 1));
    }

    private Row needRow(int s) {
        refuse(-1, out(s, 0, 7));
        refuse(-2, shelves[s] instanceof Integer);
        refuse(-3, shelves[s] == null);
        return (Row) shelves[s];
    }

    public int row(int s, int sort, int n) {
        refuse(-1, out(s, 0, 7));
        refuse(-4, n < 0);
        refuse(-6, out(sort, 0, 3));
        refuse(-7, n > 160);
        shelves[s] = new Row(sort, n);
        return 1;
    }

    public int set(int s, int i, long v) {
        Row row = needRow(s);
        refuse(-5, out(i, 0, row.elements.length - 1));
        int cut = new int[] {56, 48, 32, 0}[row.sort];
        row.elements[i] = v << cut >> cut;
        return 1;
    }

    public int copy(int p, int q, int i, int j, int n) {
        refuse(-1, out(p, 0, 7) || out(q, 0, 7));
        refuse(-2, shelves[p] instanceof Integer || shelves[q] instanceof Integer);
        refuse(-2, shelves[p] instanceof Row a && shelves[q] instanceof Row b && a.sort != b.sort);
        refuse(-3, shelves[p] == null || shelves[q] == null);
        refuse(-4, n < 0);
        Row from = (Row) shelves[p];
        Row to = (Row) shelves[q];
        refuse(-5, i < 0 || j < 0 || (long) i + n > from.elements.length || (long) j + n > to.elements.length);
        long[] old = from.elements.clone();
        for (int e = 0; e < n; e++) {
            to.elements[j + e] = old[i + e];
        }
        return 1;
    }

    public long element(int s, int i) {
        return !out(s, 0, 7) && shelves[s] instanceof Row row && !out(i, 0, row.elements.length - 1)
            ? row.elements[i] : 0;
    }

    public int show(int s, int place) {
        refuse(-1, out(s, 0, 7) || out(place, -1, now.places.size() - 1));
        shelves[s] = place == -1 ? null : Integer.valueOf(place);
        return place == -1 ? 0 : 1;
    }

    public int holds(int s) {
        if (out(s, 0, 7) || shelves[s] == null) {
            return -1;
        }
        return shelves[s] instanceof Row row ? 100 + row.sort : (Integer) shelves[s];
    }

    public int says(int s, int kind) {
        refuse(-1, out(s, 0, 7) || out(kind, 0, 6));
        refuse(-2, shelves[s] instanceof Row);
        refuse(-2, shelves[s] instanceof Integer p && !isOf(now.places.get(p), kind));
        refuse(-3, shelves[s] == null);
        Place place = now.places.get((Integer) shelves[s]);
        return switch (kind) {
            case 0 -> place.fog;
            case 1, 3 -> now.leak(place.number);
            case 2, 5 -> place.fog / 8;
            default -> place.sun();
        };
    }

    private static int addPlace(Land land, int kind, int a, int fog) {
        Place place = newPlace(kind);
        place.number = land.places.size();
        place.a = a;
        place.fog = fog;
        land.places.add(place);
        return place.number;
    }

    public int place(int kind, int a, int fog) {
        refuse(-1, out(kind, 0, 6));
        refuse(-6, out(a, 0, 9) || out(fog, 0, 99));
        refuse(-7, now.places.size() == 8);
        return addPlace(now, kind, a, fog);
    }

    public int placeOf(int place, int what) {
        refuse(-5, out(place, 0, now.places.size() - 1) || out(what, 0, 4));
        Place p = now.places.get(place);
        int bits = 0;
        for (int b = 0; b < now.bottles.size(); b++) {
            bits += now.bottles.get(b).spot == place ? 1 << b : 0;
        }
        return new int[] {p.kind(), p.a, p.fog, bits, now.leak(place)}[what];
    }

    public int fog(int place, int v) {
        needPlace(place);
        refuse(-6, out(v, 0, 99));
        int was = now.places.get(place).fog;
        now.places.get(place).fog = v;
        return was;
    }

    public int ask(int what, int v) {
        refuse(-6, out(what, 0, 6));
        int[] least = {-1, 0, 0, 0, 0, 0, 0};
        int[] most = {1, 18, 23, 99, 99, 99, 23};
        refuse(-6, out(v, least[what], most[what]));
        int[] was = {now.wind + 1, now.sun, now.tender, now.prices[1], now.prices[2], now.prices[3], now.hour};
        switch (what) {
            case 0 -> now.wind = v;
            case 1 -> now.sun = v;
            case 2 -> now.tender = v;
            case 6 -> now.hour = v;
            default -> now.prices[what - 2] = v;
        }
        return was[what];
    }

    public int bottle(int place, int strength) {
        needPlace(place);
        refuse(-6, out(strength, 1, 99));
        refuse(-7, !now.room());
        return now.fill(strength, place);
    }

    public int bottleOf(int bottle, int what) {
        needBottle(bottle);
        refuse(-5, out(what, 0, 2));
        Bottle b = now.bottles.get(bottle);
        return new int[] {b.strength, b.rank(), b.spot}[what];
    }

    // ---- laws

    private static final class Text {
        final Row row;
        int at;

        Text(Row row) {
            this.row = row;
        }

        boolean ended() {
            return at == row.elements.length;
        }

        boolean is(int sign) {
            return !ended() && (int) row.elements[at] == sign;
        }

        void want(int sign) {
            if (!is(sign)) {
                throw new Fault(at);
            }
            at++;
        }

        int digit() {
            for (int d = 0; d < 10; d++) {
                if (is('0' + d)) {
                    at++;
                    return d;
                }
            }
            return -1;
        }

        int number(int low, int high) {
            want(' ');
            int first = at;
            int value = digit();
            if (value < 0) {
                throw new Fault(first);
            }
            int second = digit();
            value = second < 0 ? value : value * 10 + second;
            if (out(value, low, high)) {
                throw new Fault(first);
            }
            return value;
        }

        /** Reads on while there is a word that goes on so. */
        String word() {
            String read = "";
            while (!WORDS.contains(read)) {
                String next = null;
                for (String word : WORDS) {
                    if (word.startsWith(read) && is(word.charAt(read.length()))) {
                        next = word.substring(0, read.length() + 1);
                    }
                }
                if (next == null) {
                    throw new Fault(at);
                }
                at++;
                read = next;
            }
            return read;
        }
    }

    private static final List<String> WORDS =
        List.of("place", "west", "calm", "east", "sun", "tender", "price", "fog", "bottle", "hour");

    private static void item(Text text, Land land) {
        int start = text.at;
        String word = text.word();
        int last = land.places.size() - 1;
        if (word.equals("place") && last == 7 || word.equals("bottle") && !land.room()) {
            throw new Fault(start);
        }
        switch (word) {
            case "place" -> addPlace(land, text.number(0, 6), text.number(0, 9), text.number(0, 99));
            case "west" -> land.wind = -1;
            case "calm" -> land.wind = 0;
            case "east" -> land.wind = 1;
            case "sun" -> land.sun = text.number(0, 18);
            case "tender" -> land.tender = text.number(0, 23);
            case "price" -> {
                int rank = text.number(1, 3);
                land.prices[rank] = text.number(0, 99);
            }
            case "fog" -> {
                Place place = land.places.isEmpty() ? null : land.places.get(text.number(0, last));
                int fog = place == null ? text.number(1, 0) : text.number(0, 99);
                place.fog = fog;
            }
            case "bottle" -> {
                int place = text.number(0, last);
                land.fill(text.number(1, 99), place);
            }
            default -> {
                int first = text.at + 1;
                int act = text.number(0, 6);
                if (!land.may(act)) {
                    throw new Fault(first);
                }
                land.hour(act);
            }
        }
    }

    public int law(int s) {
        Text text = new Text(needRow(s));
        Land land = now.twin();
        int items = 0;
        try {
            do {
                if (items > 0) {
                    text.want(';');
                }
                item(text, land);
                items++;
            } while (!text.ended());
        } catch (Fault f) {
            fault = f.place;
            throw new Refusal(-6, 0);
        }
        fault = -1;
        now = land;
        return items;
    }

    public int fault() {
        return fault;
    }

    // ---- what comes of it

    public int may() {
        int bits = 0;
        for (int act = 0; act < 7; act++) {
            bits += now.may(act) ? 1 << act : 0;
        }
        return bits;
    }

    public int thick(int place, int n) {
        needPlace(place);
        refuse(-6, out(n, 0, 99));
        return now.waited(n).places.get(place).fog;
    }

    public int strength(int bottle, int n) {
        needBottle(bottle);
        refuse(-6, out(n, 0, 99));
        return now.waited(n).bottles.get(bottle).strength;
    }

    public int worthIn(int n) {
        refuse(-6, out(n, 0, 99));
        Land then = now.waited(n);
        return then.coins + then.worth(then.bottles);
    }

    public int thickest(int place) {
        needPlace(place);
        int best = 0;
        for (int n = 24; n >= 0; n--) {
            best = n == 24 || thick(place, n) >= thick(place, best) ? n : best;
        }
        return best;
    }

    public int where(int n) {
        refuse(-5, now.places.isEmpty());
        refuse(-6, out(n, 0, 99));
        Land then = now.waited(n);
        int most = then.places.stream().mapToInt(p -> p.fog).max().orElse(0);
        return then.places.stream().filter(p -> p.fog == most).findFirst().orElseThrow().number;
    }

    private static int apart(Refusal refusal) {
        throw new Refusal(refusal.number, -10);
    }

    public int lasts(int bottle) {
        try {
            needBottle(bottle);
        } catch (Refusal refusal) {
            return apart(refusal);
        }
        for (int n = 0; n <= 99; n++) {
            if (strength(bottle, n) < 10) {
                return n;
            }
        }
        return -1;
    }

    public int keep(int bottle, int n) {
        needBottle(bottle);
        refuse(-1, now.bottles.get(bottle).spot == 200);
        refuse(-6, out(n, 0, 99));
        int best = -1;
        int most = -1;
        for (int p = 0; p < now.places.size(); p++) {
            Land laid = now.twin();
            laid.bottles.get(bottle).spot = p;
            int left = laid.waited(n).bottles.get(bottle).strength;
            if (left > most) {
                most = left;
                best = p;
            }
        }
        return best;
    }

    public int ahead(int n, int i) {
        refuse(-6, out(n, 1, 4));
        refuse(-5, out(i, -1, n - 1));
        int rows = (int) Math.pow(7, n);
        Land best = null;
        int bestRow = 0;
        for (int row = 0; row < rows; row++) {
            Land end = walked(row, n);
            if (end != null && (best == null || end.coins > best.coins
                || end.coins == best.coins && end.carriedStrength() > best.carriedStrength())) {
                best = end;
                bestRow = row;
            }
        }
        return i == -1 ? best.coins : bestRow / (int) Math.pow(7, n - 1 - i) % 7;
    }

    /** What there is behind a row of acts, told as a number of base 7; null if one of them may not be. */
    private Land walked(int row, int n) {
        Land land = now.twin();
        for (int k = n - 1; k >= 0; k--) {
            int act = row / (int) Math.pow(7, k) % 7;
            if (!land.may(act)) {
                return null;
            }
            land.hour(act);
        }
        return land;
    }

    public int by(int rule, int n, int what) {
        refuse(-5, out(what, 0, 2));
        refuse(-6, out(rule, 0, 3) || out(n, 0, 48));
        Land then = now.ruled(rule, n);
        return new int[] {then.coins, then.carriedStrength(), then.you}[what];
    }

    public int best(int n) {
        refuse(-6, out(n, 0, 48));
        int best = 0;
        for (int rule = 1; rule < 4; rule++) {
            best = now.ruled(rule, n).coins > now.ruled(best, n).coins ? rule : best;
        }
        return best;
    }

    public int latest(int rule, int n, int v) {
        if (out(rule, 0, 3) || out(n, 0, 48) || out(v, 0, 99999)) {
            throw new Refusal(-6, -10);
        }
        for (int tender = 0; tender < 24; tender++) {
            Land land = now.twin();
            land.tender = tender;
            if (land.ruled(rule, n).coins >= v) {
                return tender;
            }
        }
        return -1;
    }

    public int dear(int n) {
        if (out(n, 0, 48)) {
            throw new Refusal(-6, -10);
        }
        for (int price = 0; price < 100; price++) {
            Land land = now.twin();
            land.prices[3] = price;
            if (land.ruled(1, n).coins > land.ruled(0, n).coins) {
                return price;
            }
        }
        return -1;
    }

    public int tells(int s, int n) {
        Row row = needRow(s);
        refuse(-5, row.elements.length < now.places.size());
        refuse(-6, out(n, 0, 24));
        int bits = 0;
        for (int wind = -1; wind <= 1; wind++) {
            Land land = now.twin();
            land.wind = wind;
            boolean same = land.waited(n).places.stream().allMatch(p -> p.fog == (int) row.elements[p.number]);
            bits += same ? 1 << wind + 1 : 0;
        }
        return bits;
    }

    // ---- told days

    private Row needDay(int s, int n) {
        Row row = needRow(s);
        refuse(-4, n < 0);
        refuse(-5, n > row.elements.length);
        return row;
    }

    private int wrong(Row row, int n, Land land) {
        for (int i = 0; i < n; i++) {
            int act = (int) row.elements[i];
            if (!land.may(act)) {
                return i;
            }
            land.hour(act);
        }
        return -1;
    }

    public int judge(int s, int n) {
        try {
            Row row = needDay(s, n);
            refuse(-6, n > 60);
            return wrong(row, n, now.twin());
        } catch (Refusal refusal) {
            return apart(refusal);
        }
    }

    public int told(int s, int n, int what) {
        Row row = needDay(s, n);
        refuse(-5, out(what, 0, 3));
        refuse(-6, n > 60);
        Land then = now.twin();
        refuse(-6, wrong(row, n, then) != -1);
        return new int[] {then.coins, then.at(100).size(), then.carriedStrength(), then.hour}[what];
    }

    public int done(int s, int n) {
        Row row = needDay(s, n);
        refuse(-6, n > 60);
        Land then = now.twin();
        refuse(-6, wrong(row, n, then) != -1);
        now = then;
        return now.coins;
    }

    public int worth() {
        return now.worth(now.bottles);
    }

    public int each(int of) {
        refuse(-5, out(of, 0, 3));
        return (int) now.bottles.stream().filter(b -> b.spot != 200 && b.rank() == of).count();
    }

    public int richest() {
        int most = now.places.stream().mapToInt(p -> now.most(p.number)).max().orElse(-1);
        return most == -1 ? -1
            : now.places.stream().filter(p -> now.most(p.number) == most).findFirst().orElseThrow().number;
    }

    public int does(int act) {
        refuse(-6, !now.may(act));
        now.hour(act);
        return now.coins;
    }

    public int season(int n) {
        refuse(-6, out(n, 1, 200));
        int was = now.coins;
        for (int i = 0; i < n; i++) {
            now.seed = now.seed * 1103515245 + 12345;
            now.wind = Math.floorMod(now.seed >>> 16, 3) - 1;
            now.hour(now.choose(0));
        }
        return now.coins - was;
    }

    public int seed(int v) {
        int was = now.seed;
        now.seed = v;
        return was;
    }

    public int act(int place, int move, int x) {
        trace = new ArrayList<>();
        if (out(place, 0, now.places.size() - 1) || out(move, 0, 2)) {
            return 0;
        }
        Place p = now.places.get(place);
        return move == 0 ? p.drifts(x, trace) : move == 1 ? p.thins(x, trace) : p.leaks(x, trace);
    }

    public int trace(int i) {
        return out(i, 0, Math.min(20, trace.size()) - 1) ? -1 : trace.get(i);
    }

    public int image() {
        image = now.twin();
        return now.places.size();
    }

    public int restore() {
        refuse(-6, image == null);
        now = image.twin();
        for (int s = 0; s < 8; s++) {
            if (shelves[s] instanceof Integer p && p >= now.places.size()) {
                shelves[s] = null;
            }
        }
        return now.places.size();
    }

    public int status(int what) {
        int fogs = now.places.stream().mapToInt(p -> p.fog).sum();
        int[] all = {now.places.size(), now.bottles.size(), now.at(100).size(), now.you, now.coins, now.hour, now.days,
            now.wind + 1, now.sun, now.tender, fogs, refusals[1], refusals[2], refusals[3], refusals[4], refusals[5],
            refusals[6], refusals[7], now.seed, trace.size(), now.isUp() ? 1 : 0};
        return out(what, 0, 20) ? -1 : all[what];
    }
}
