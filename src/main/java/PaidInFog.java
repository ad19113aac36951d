/** Fog along a valley: who bottles it, keeps it where it leaks least and spends it before it is too late. */
public final class PaidInFog {
    public static final int NONE = -1;

    private static final int NOBODY = -1;
    private static final int OTHER = -2;
    private static final int NOTHING = -3;
    private static final int BELOW = -4;
    private static final int BEYOND = -5;
    private static final int WRONG = -6;
    private static final int ROOM = -7;
    private static final int REFUSALS = 7;
    /** Some calls answer -11 to -16, so that NONE stays an answer of theirs; they are counted as -1 to -6. */
    private static final int APART = -10;

    private static final int FIELD = 0;
    private static final int CELLAR = 1;
    private static final int BRIDGE = 2;
    private static final int VAULT = 3;
    private static final int HILL = 4;
    private static final int MARSH = 5;
    private static final int PEAK = 6;
    private static final int KINDS = 7;

    private static final int WAIT = 0;
    private static final int GATHER = 1;
    private static final int ON = 2;
    private static final int BACK = 3;
    private static final int SPEND = 4;
    private static final int PUT = 5;
    private static final int TAKE = 6;
    private static final int ACTS = 7;

    private static final int GREEDY = 0;
    private static final int FULL = 1;
    private static final int MARKET = 2;
    private static final int DOWN = 3;
    private static final int RULES = 4;

    private static final int MOST_PLACES = 8;
    private static final int MOST_BOTTLES = 12;
    private static final int MOST_CARRIED = 6;
    private static final int CLASSES = 4;
    private static final int MOST_TRAIT = 9;
    private static final int MOST_FOG = 99;
    private static final int MOST_STRENGTH = 99;
    private static final int MOST_PRICE = 99;
    private static final int MOST_COINS = 99999;
    private static final int HOURS_A_DAY = 24;
    private static final int LAST_HOUR = 23;
    private static final int LAST_SUN = 17;
    private static final int LATEST_SUN = 18;
    private static final int GATHERED = 10;

    /** Where a bottle is, if it lies at no place. */
    private static final int CARRIED = 100;
    private static final int EMPTY = 200;

    private static final int SHELVES = 8;
    private static final int SORTS = 4;
    private static final int MOST_ELEMENTS = 160;
    private static final int ROW_MARK = 100;

    private static final int FAR = 99;
    private static final int RULED_FAR = 48;
    private static final int ROW_FAR = 4;
    private static final int DAY_FAR = 60;
    private static final int SEASON_FAR = 200;

    private final Valley now = new Valley();
    private final Valley pictured = new Valley();
    private final Valley trial = new Valley();
    private final Shelf[] shelves = new Shelf[SHELVES];
    private final int[] refused = new int[REFUSALS + 1];
    private final LawReader reader = new LawReader();
    private final Search search = new Search();
    private final Moves moves = new Moves();
    private boolean isPictured = false;
    private int lastFault = NONE;

    public PaidInFog() {
        for (int s = 0; s < SHELVES; s++) {
            shelves[s] = new Shelf();
        }
    }

    // ---- shelves

    public int row(int s, int sort, int n) {
        Shelf shelf = shelfAt(s);
        if (shelf == null) {
            return refuse(NOBODY);
        }
        if (n < 0) {
            return refuse(BELOW);
        }
        if (sort < 0 || sort >= SORTS) {
            return refuse(WRONG);
        }
        if (n > MOST_ELEMENTS) {
            return refuse(ROOM);
        }
        shelf.holdRow(sort, n);
        return 1;
    }

    public int set(int s, int i, long v) {
        int no = noRow(s);
        if (no != 0) {
            return refuse(no);
        }
        Shelf shelf = shelfAt(s);
        if (shelf == null || !shelf.hasElement(i)) {
            return refuse(BEYOND);
        }
        shelf.write(i, v);
        return 1;
    }

    public int copy(int p, int q, int i, int j, int n) {
        Shelf from = shelfAt(p);
        Shelf to = shelfAt(q);
        if (from == null || to == null) {
            return refuse(NOBODY);
        }
        if (from.isPlace() || to.isPlace() || from.isOfAnotherSort(to)) {
            return refuse(OTHER);
        }
        if (!from.isRow() || !to.isRow()) {
            return refuse(NOTHING);
        }
        if (n < 0) {
            return refuse(BELOW);
        }
        if (!from.hasRange(i, n) || !to.hasRange(j, n)) {
            return refuse(BEYOND);
        }
        to.copyIn(from, i, j, n);
        return 1;
    }

    public long element(int s, int i) {
        Shelf shelf = shelfAt(s);
        return shelf == null ? 0 : shelf.read(i);
    }

    public int show(int s, int place) {
        Shelf shelf = shelfAt(s);
        if (shelf == null || (place != NONE && !now.hasPlace(place))) {
            return refuse(NOBODY);
        }
        shelf.hold(place);
        return place == NONE ? 0 : 1;
    }

    public int holds(int s) {
        Shelf shelf = shelfAt(s);
        return shelf == null ? NONE : shelf.content;
    }

    public int says(int s, int kind) {
        Shelf shelf = shelfAt(s);
        if (shelf == null || kind < 0 || kind >= KINDS) {
            return refuse(NOBODY);
        }
        int place = shelf.content;
        if (shelf.isRow() || (shelf.isPlace() && !now.isOfKind(place, kind))) {
            return refuse(OTHER);
        }
        if (!shelf.isPlace()) {
            return refuse(NOTHING);
        }
        return word(place, kind);
    }

    private int word(int place, int kind) {
        switch (kind) {
            case CELLAR:
            case VAULT:
                return now.leakAt(place);
            case BRIDGE:
            case MARSH:
                return now.windTakes(place);
            case HILL:
            case PEAK:
                return now.sunTakes(place);
            default:
                return now.fogAt(place);
        }
    }

    // ---- places and bottles

    public int place(int kind, int a, int fog) {
        if (kind < 0 || kind >= KINDS) {
            return refuse(NOBODY);
        }
        if (!isWithin(a, 0, MOST_TRAIT) || !isWithin(fog, 0, MOST_FOG)) {
            return refuse(WRONG);
        }
        if (!now.hasRoomForPlace()) {
            return refuse(ROOM);
        }
        return now.addPlace(kind, a, fog);
    }

    public int placeOf(int place, int what) {
        if (!now.hasPlace(place)) {
            return refuse(BEYOND);
        }
        switch (what) {
            case 0:
                return now.kindAt(place);
            case 1:
                return now.traitAt(place);
            case 2:
                return now.fogAt(place);
            case 3:
                return now.bottlesAt(place);
            case 4:
                return now.leakAt(place);
            default:
                return refuse(BEYOND);
        }
    }

    public int fog(int place, int v) {
        if (!now.hasPlace(place)) {
            return refuse(NOBODY);
        }
        if (!isWithin(v, 0, MOST_FOG)) {
            return refuse(WRONG);
        }
        int was = now.fogAt(place);
        now.setFog(place, v);
        return was;
    }

    public int ask(int what, int v) {
        if (!mayBecome(what, v)) {
            return refuse(WRONG);
        }
        int was;
        switch (what) {
            case 0:
                was = now.wind + 1;
                now.wind = v;
                return was;
            case 1:
                was = now.sun;
                now.sun = v;
                return was;
            case 2:
                was = now.tender;
                now.tender = v;
                return was;
            case 6:
                was = now.hour;
                now.hour = v;
                return was;
            default:
                was = now.priceOf(what - 2);
                now.setPrice(what - 2, v);
                return was;
        }
    }

    private static boolean mayBecome(int what, int v) {
        switch (what) {
            case 0:
                return isWithin(v, -1, 1);
            case 1:
                return isWithin(v, 0, LATEST_SUN);
            case 2:
            case 6:
                return isWithin(v, 0, LAST_HOUR);
            case 3:
            case 4:
            case 5:
                return isWithin(v, 0, MOST_PRICE);
            default:
                return false;
        }
    }

    public int bottle(int place, int strength) {
        if (!now.hasPlace(place)) {
            return refuse(NOBODY);
        }
        if (!isWithin(strength, 1, MOST_STRENGTH)) {
            return refuse(WRONG);
        }
        if (now.freeBottle() == NONE) {
            return refuse(ROOM);
        }
        return now.fill(place, strength);
    }

    public int bottleOf(int bottle, int what) {
        if (!now.hasBottle(bottle)) {
            return refuse(NOBODY);
        }
        switch (what) {
            case 0:
                return now.strengthOf(bottle);
            case 1:
                return now.classOf(bottle);
            case 2:
                return now.spotOf(bottle);
            default:
                return refuse(BEYOND);
        }
    }

    // ---- laws

    public int law(int s) {
        int no = noRow(s);
        Shelf text = shelfAt(s);
        if (no != 0 || text == null) {
            return refuse(no);
        }
        trial.become(now);
        reader.open(text, trial);
        for (int turn = 0; turn <= MOST_ELEMENTS && reader.goesOn(); turn++) {
            reader.readItem();
        }
        lastFault = reader.fault;
        if (lastFault != NONE) {
            return refuse(WRONG);
        }
        now.become(trial);
        return reader.items;
    }

    public int fault() {
        return lastFault;
    }

    // ---- what comes of it

    public int may() {
        int bits = 0;
        for (int act = 0; act < ACTS; act++) {
            if (now.allows(act)) {
                bits |= 1 << act;
            }
        }
        return bits;
    }

    public int thick(int place, int n) {
        if (!now.hasPlace(place)) {
            return refuse(NOBODY);
        }
        if (!isWithin(n, 0, FAR)) {
            return refuse(WRONG);
        }
        return behind(n).fogAt(place);
    }

    public int strength(int bottle, int n) {
        if (!now.hasBottle(bottle)) {
            return refuse(NOBODY);
        }
        if (!isWithin(n, 0, FAR)) {
            return refuse(WRONG);
        }
        return behind(n).strengthOf(bottle);
    }

    public int worthIn(int n) {
        if (!isWithin(n, 0, FAR)) {
            return refuse(WRONG);
        }
        Valley then = behind(n);
        return then.coins + then.worthOfAll();
    }

    public int thickest(int place) {
        if (!now.hasPlace(place)) {
            return refuse(NOBODY);
        }
        trial.become(now);
        int found = 0;
        int most = trial.fogAt(place);
        for (int n = 1; n <= HOURS_A_DAY; n++) {
            trial.pass(WAIT);
            if (trial.fogAt(place) > most) {
                most = trial.fogAt(place);
                found = n;
            }
        }
        return found;
    }

    public int where(int n) {
        if (now.places == 0) {
            return refuse(BEYOND);
        }
        if (!isWithin(n, 0, FAR)) {
            return refuse(WRONG);
        }
        Valley then = behind(n);
        int found = 0;
        for (int p = 1; p < then.places; p++) {
            if (then.fogAt(p) > then.fogAt(found)) {
                found = p;
            }
        }
        return found;
    }

    public int lasts(int bottle) {
        if (!now.hasBottle(bottle)) {
            return refuse(NOBODY) + APART;
        }
        trial.become(now);
        for (int n = 0; n <= FAR; n++) {
            if (trial.classOf(bottle) == 0) {
                return n;
            }
            trial.pass(WAIT);
        }
        return NONE;
    }

    public int keep(int bottle, int n) {
        if (!now.hasBottle(bottle) || now.spotOf(bottle) == EMPTY) {
            return refuse(NOBODY);
        }
        if (!isWithin(n, 0, FAR)) {
            return refuse(WRONG);
        }
        int found = 0;
        int most = NONE;
        for (int p = 0; p < now.places; p++) {
            trial.become(now);
            trial.lay(bottle, p);
            trial.waitFor(n);
            if (trial.strengthOf(bottle) > most) {
                most = trial.strengthOf(bottle);
                found = p;
            }
        }
        return found;
    }

    public int ahead(int n, int i) {
        if (!isWithin(n, 1, ROW_FAR)) {
            return refuse(WRONG);
        }
        if (i != NONE && (i < 0 || i >= n)) {
            return refuse(BEYOND);
        }
        search.start(now, n);
        return i == NONE ? search.mostCoins : search.bestAct(i);
    }

    public int by(int rule, int n, int what) {
        if (!isWithin(what, 0, 2)) {
            return refuse(BEYOND);
        }
        if (!mayRule(rule, n)) {
            return refuse(WRONG);
        }
        trial.become(now);
        trial.follow(rule, n);
        switch (what) {
            case 0:
                return trial.coins;
            case 1:
                return trial.strengthCarried();
            default:
                return trial.you;
        }
    }

    public int best(int n) {
        if (!mayRule(GREEDY, n)) {
            return refuse(WRONG);
        }
        int found = 0;
        int most = NONE;
        for (int rule = 0; rule < RULES; rule++) {
            trial.become(now);
            trial.follow(rule, n);
            if (trial.coins > most) {
                most = trial.coins;
                found = rule;
            }
        }
        return found;
    }

    public int latest(int rule, int n, int v) {
        if (!mayRule(rule, n) || !isWithin(v, 0, MOST_COINS)) {
            return refuse(WRONG) + APART;
        }
        for (int tender = 0; tender <= LAST_HOUR; tender++) {
            trial.become(now);
            trial.tender = tender;
            trial.follow(rule, n);
            if (trial.coins >= v) {
                return tender;
            }
        }
        return NONE;
    }

    public int dear(int n) {
        if (!mayRule(GREEDY, n)) {
            return refuse(WRONG) + APART;
        }
        // neither rule looks at prices, so what it brings grows evenly with the price
        int full = brings(FULL, n, 0);
        int fullRise = brings(FULL, n, 1) - full;
        int greedy = brings(GREEDY, n, 0);
        int greedyRise = brings(GREEDY, n, 1) - greedy;
        for (int price = 0; price <= MOST_PRICE; price++) {
            if (purse(full + price * fullRise) > purse(greedy + price * greedyRise)) {
                return price;
            }
        }
        return NONE;
    }

    /** What a rule brings to an empty purse, which it can't fill in so few hours. */
    private int brings(int rule, int n, int price) {
        trial.become(now);
        trial.coins = 0;
        trial.setPrice(CLASSES - 1, price);
        trial.follow(rule, n);
        return trial.coins;
    }

    private int purse(int brought) {
        return Math.min(MOST_COINS, now.coins + brought);
    }

    public int tells(int s, int n) {
        int no = noRow(s);
        Shelf shelf = shelfAt(s);
        if (no != 0 || shelf == null) {
            return refuse(no);
        }
        if (shelf.size < now.places) {
            return refuse(BEYOND);
        }
        if (!isWithin(n, 0, HOURS_A_DAY)) {
            return refuse(WRONG);
        }
        int bits = 0;
        for (int wind = -1; wind <= 1; wind++) {
            trial.become(now);
            trial.wind = wind;
            trial.waitFor(n);
            if (isFogAsTold(trial, shelf)) {
                bits |= 1 << (wind + 1);
            }
        }
        return bits;
    }

    private static boolean isFogAsTold(Valley valley, Shelf told) {
        for (int p = 0; p < valley.places; p++) {
            if (valley.fogAt(p) != told.number(p)) {
                return false;
            }
        }
        return true;
    }

    // ---- told days

    public int judge(int s, int n) {
        int no = noDay(s, n, true);
        return no != 0 ? refuse(no) + APART : tryDay(s, n);
    }

    public int told(int s, int n, int what) {
        int no = noDay(s, n, isWithin(what, 0, 3));
        if (no != 0) {
            return refuse(no);
        }
        if (tryDay(s, n) != NONE) {
            return refuse(WRONG);
        }
        switch (what) {
            case 0:
                return trial.coins;
            case 1:
                return trial.carried();
            case 2:
                return trial.strengthCarried();
            default:
                return trial.hour;
        }
    }

    public int done(int s, int n) {
        int no = noDay(s, n, true);
        if (no != 0) {
            return refuse(no);
        }
        if (tryDay(s, n) != NONE) {
            return refuse(WRONG);
        }
        now.become(trial);
        return now.coins;
    }

    /** The refusal of a day of the first n elements in shelf s; 0 if it may be told. */
    private int noDay(int s, int n, boolean isThereWhatIsAsked) {
        int no = noRow(s);
        Shelf shelf = shelfAt(s);
        if (no != 0 || shelf == null) {
            return no;
        }
        if (n < 0) {
            return BELOW;
        }
        if (shelf.size < n || !isThereWhatIsAsked) {
            return BEYOND;
        }
        return n > DAY_FAR ? WRONG : 0;
    }

    /** Lives the day in the trial: the first act that may not be, or NONE. */
    private int tryDay(int s, int n) {
        Shelf day = shelfAt(s);
        trial.become(now);
        for (int i = 0; i < n && day != null; i++) {
            int act = day.number(i);
            if (!trial.allows(act)) {
                return i;
            }
            trial.pass(act);
        }
        return NONE;
    }

    // ---- whose purse it is

    public int worth() {
        return now.worthOfAll();
    }

    public int each(int of) {
        if (!isWithin(of, 0, CLASSES - 1)) {
            return refuse(BEYOND);
        }
        int count = 0;
        for (int b = 0; b < now.bottles; b++) {
            if (now.spotOf(b) != EMPTY && now.classOf(b) == of) {
                count++;
            }
        }
        return count;
    }

    public int richest() {
        int found = NONE;
        int most = NONE;
        for (int p = 0; p < now.places; p++) {
            if (now.bottlesAt(p) != 0 && now.worthAt(p) > most) {
                most = now.worthAt(p);
                found = p;
            }
        }
        return found;
    }

    // ---- in truth

    public int does(int act) {
        if (!now.allows(act)) {
            return refuse(WRONG);
        }
        now.pass(act);
        return now.coins;
    }

    public int season(int n) {
        if (!isWithin(n, 1, SEASON_FAR)) {
            return refuse(WRONG);
        }
        int was = now.coins;
        for (int i = 0; i < n; i++) {
            now.wind = now.draw(3) - 1;
            now.follow(GREEDY, 1);
        }
        return now.coins - was;
    }

    public int seed(int v) {
        int was = now.seed;
        now.seed = v;
        return was;
    }

    // ---- moves

    public int act(int place, int move, int x) {
        if (!now.hasPlace(place) || !moves.hasMove(move)) {
            moves.forget();
            return 0;
        }
        return moves.start(place, now.kindAt(place), now.traitAt(place), move, x);
    }

    public int trace(int i) {
        return moves.bodyAt(i);
    }

    // ---- the image, and how things stand

    public int image() {
        pictured.become(now);
        isPictured = true;
        return now.places;
    }

    public int restore() {
        if (!isPictured) {
            return refuse(WRONG);
        }
        now.become(pictured);
        for (int s = 0; s < SHELVES; s++) {
            Shelf shelf = shelfAt(s);
            if (shelf != null && shelf.isPlace() && !now.hasPlace(shelf.content)) {
                shelf.hold(NONE);
            }
        }
        return now.places;
    }

    public int status(int what) {
        if (what >= 11 && what <= 17) {
            return refusalsOf(10 - what);
        }
        switch (what) {
            case 0:
                return now.places;
            case 1:
                return now.bottles;
            case 2:
                return now.carried();
            case 3:
                return now.you;
            case 4:
                return now.coins;
            case 5:
                return now.hour;
            case 6:
                return now.days;
            case 7:
                return now.wind + 1;
            case 8:
                return now.sun;
            case 9:
                return now.tender;
            case 10:
                return now.fogOfAll();
            case 18:
                return now.seed;
            case 19:
                return moves.ran;
            case 20:
                return now.isSunUp() ? 1 : 0;
            default:
                return NONE;
        }
    }

    // ---- what the calls have in common

    private int refuse(int number) {
        if (number <= NOBODY && number >= ROOM) {
            refused[-number]++;
        }
        return number;
    }

    private int refusalsOf(int number) {
        return number <= NOBODY && number >= ROOM ? refused[-number] : 0;
    }

    private Shelf shelfAt(int s) {
        return s >= 0 && s < SHELVES ? shelves[s] : null;
    }

    /** The refusal of a row in shelf s; 0 if there is one. */
    private int noRow(int s) {
        Shelf shelf = shelfAt(s);
        if (shelf == null) {
            return NOBODY;
        }
        if (shelf.isPlace()) {
            return OTHER;
        }
        return shelf.isRow() ? 0 : NOTHING;
    }

    private Valley behind(int n) {
        trial.become(now);
        trial.waitFor(n);
        return trial;
    }

    private static boolean mayRule(int rule, int n) {
        return isWithin(rule, 0, RULES - 1) && isWithin(n, 0, RULED_FAR);
    }

    private static boolean isWithin(int v, int low, int high) {
        return v >= low && v <= high;
    }

    /** The kind above; NONE above a field. */
    private static int above(int kind) {
        switch (kind) {
            case CELLAR:
            case BRIDGE:
            case HILL:
                return FIELD;
            case VAULT:
                return CELLAR;
            case MARSH:
                return BRIDGE;
            case PEAK:
                return HILL;
            default:
                return NONE;
        }
    }

    /** All but shelves: truth, the image and whatever is only tried out are one of these each. */
    private static final class Valley {
        private final int[] kinds = new int[MOST_PLACES];
        private final int[] traits = new int[MOST_PLACES];
        private final int[] fogs = new int[MOST_PLACES];
        /** What the wind takes from each place: all at once, so it is kept until all is taken. */
        private final int[] blown = new int[MOST_PLACES];
        private final int[] strengths = new int[MOST_BOTTLES];
        private final int[] spots = new int[MOST_BOTTLES];
        private final int[] prices = new int[CLASSES];
        private int places = 0;
        private int bottles = 0;
        private int you = 0;
        private int coins = 0;
        private int hour = 0;
        private int days = 0;
        private int wind = 0;
        private int sun = 7;
        private int tender = 9;
        private int seed = 1;

        private Valley() {
            prices[1] = 1;
            prices[2] = 4;
            prices[3] = 9;
        }

        private void become(Valley other) {
            System.arraycopy(other.kinds, 0, kinds, 0, MOST_PLACES);
            System.arraycopy(other.traits, 0, traits, 0, MOST_PLACES);
            System.arraycopy(other.fogs, 0, fogs, 0, MOST_PLACES);
            System.arraycopy(other.strengths, 0, strengths, 0, MOST_BOTTLES);
            System.arraycopy(other.spots, 0, spots, 0, MOST_BOTTLES);
            System.arraycopy(other.prices, 0, prices, 0, CLASSES);
            places = other.places;
            bottles = other.bottles;
            you = other.you;
            coins = other.coins;
            hour = other.hour;
            days = other.days;
            wind = other.wind;
            sun = other.sun;
            tender = other.tender;
            seed = other.seed;
        }

        private boolean hasPlace(int p) {
            return p >= 0 && p < places && p < MOST_PLACES;
        }

        private boolean hasRoomForPlace() {
            return places < MOST_PLACES;
        }

        private int addPlace(int kind, int trait, int fog) {
            int p = places;
            if (p < 0 || p >= MOST_PLACES) {
                return NONE;
            }
            kinds[p] = kind;
            traits[p] = trait;
            fogs[p] = fog;
            places++;
            return p;
        }

        private int kindAt(int p) {
            return hasPlace(p) ? kinds[p] : NONE;
        }

        private int traitAt(int p) {
            return hasPlace(p) ? traits[p] : 0;
        }

        private int fogAt(int p) {
            return hasPlace(p) ? fogs[p] : 0;
        }

        private void setFog(int p, int fog) {
            if (hasPlace(p)) {
                fogs[p] = fog;
            }
        }

        private int fogOfAll() {
            int sum = 0;
            for (int p = 0; p < places && p < MOST_PLACES; p++) {
                sum += fogs[p];
            }
            return sum;
        }

        /** Whether the place is of the kind, or of one under it. */
        private boolean isOfKind(int p, int wanted) {
            int kind = kindAt(p);
            for (int step = 0; step < KINDS && kind != NONE; step++) {
                if (kind == wanted) {
                    return true;
                }
                kind = above(kind);
            }
            return false;
        }

        private boolean hasBottle(int b) {
            return b >= 0 && b < bottles && b < MOST_BOTTLES;
        }

        /** The first empty bottle, else a new one; NONE if there can be no more. */
        private int freeBottle() {
            for (int b = 0; b < bottles && b < MOST_BOTTLES; b++) {
                if (spots[b] == EMPTY) {
                    return b;
                }
            }
            return bottles < MOST_BOTTLES ? bottles : NONE;
        }

        private int fill(int spot, int strength) {
            int b = freeBottle();
            if (b < 0 || b >= MOST_BOTTLES) {
                return NONE;
            }
            strengths[b] = strength;
            spots[b] = spot;
            if (b >= bottles) {
                bottles = b + 1;
            }
            return b;
        }

        private void drain(int b) {
            if (b >= 0 && b < MOST_BOTTLES) {
                strengths[b] = 0;
                spots[b] = EMPTY;
            }
        }

        private void lay(int b, int spot) {
            if (hasBottle(b)) {
                spots[b] = spot;
            }
        }

        private int strengthOf(int b) {
            return hasBottle(b) ? strengths[b] : 0;
        }

        private int spotOf(int b) {
            return hasBottle(b) ? spots[b] : EMPTY;
        }

        private int classOf(int b) {
            int strength = b >= 0 && b < MOST_BOTTLES ? strengths[b] : 0;
            if (strength < 10) {
                return 0;
            }
            if (strength < 40) {
                return 1;
            }
            return strength < 70 ? 2 : 3;
        }

        private int priceOf(int rank) {
            return rank >= 0 && rank < CLASSES ? prices[rank] : 0;
        }

        private void setPrice(int rank, int price) {
            if (rank >= 1 && rank < CLASSES) {
                prices[rank] = price;
            }
        }

        /** The bottles at a spot, as bits. */
        private int bottlesAt(int spot) {
            int bits = 0;
            for (int b = 0; b < bottles && b < MOST_BOTTLES; b++) {
                if (spots[b] == spot) {
                    bits |= 1 << b;
                }
            }
            return bits;
        }

        private int carried() {
            return Integer.bitCount(bottlesAt(CARRIED));
        }

        private int strengthCarried() {
            int sum = 0;
            for (int b = 0; b < bottles && b < MOST_BOTTLES; b++) {
                if (spots[b] == CARRIED) {
                    sum += strengths[b];
                }
            }
            return sum;
        }

        /** The strongest bottle at a spot, of several the first; NONE if none is there. */
        private int strongest(int spot) {
            int found = NONE;
            int most = 0;
            for (int b = 0; b < bottles && b < MOST_BOTTLES; b++) {
                if (spots[b] == spot && strengths[b] > most) {
                    most = strengths[b];
                    found = b;
                }
            }
            return found;
        }

        private int worthAt(int spot) {
            int sum = 0;
            for (int b = 0; b < bottles && b < MOST_BOTTLES; b++) {
                if (spots[b] == spot) {
                    sum += priceOf(classOf(b));
                }
            }
            return sum;
        }

        private int worthOfAll() {
            int sum = 0;
            for (int b = 0; b < bottles && b < MOST_BOTTLES; b++) {
                // an empty one is of class 0, whose price is 0
                sum += priceOf(classOf(b));
            }
            return sum;
        }

        private boolean isSunUp() {
            return hour >= sun && hour <= LAST_SUN;
        }

        /** How much a bottle leaks now at a place, or carried. */
        private int leakAt(int spot) {
            int once = hasPlace(spot) ? leakOf(kinds[spot], traits[spot]) : 3;
            return isSunUp() ? 2 * once : once;
        }

        private int leakOf(int kind, int trait) {
            switch (kind) {
                case CELLAR:
                    return 2;
                case VAULT:
                    return hour < trait ? 0 : 1;
                case HILL:
                case PEAK:
                    return 6;
                default:
                    return 4;
            }
        }

        private int sunTakes(int p) {
            if (!hasPlace(p)) {
                return 0;
            }
            switch (kinds[p]) {
                case CELLAR:
                case VAULT:
                    return 0;
                case HILL:
                    return 10;
                case PEAK:
                    return 10 + traits[p];
                case MARSH:
                    return 3;
                default:
                    return 5;
            }
        }

        private int windTakes(int p) {
            if (!hasPlace(p)) {
                return 0;
            }
            return kinds[p] == BRIDGE || kinds[p] == MARSH ? fogs[p] / 8 : fogs[p] / 4;
        }

        private boolean allows(int act) {
            switch (act) {
                case WAIT:
                    return true;
                case GATHER:
                    return fogAt(you) >= GATHERED && carried() < MOST_CARRIED && freeBottle() != NONE;
                case ON:
                    return hasPlace(you + 1);
                case BACK:
                    return hasPlace(you - 1);
                case SPEND:
                    return hour < tender && classOf(strongest(CARRIED)) > 0;
                case PUT:
                    return hasPlace(you) && bottlesAt(CARRIED) != 0;
                case TAKE:
                    return carried() < MOST_CARRIED && strongest(you) != NONE;
                default:
                    return false;
            }
        }

        private void perform(int act) {
            switch (act) {
                case GATHER:
                    fill(CARRIED, fogAt(you));
                    setFog(you, fogAt(you) - GATHERED);
                    break;
                case ON:
                    you++;
                    break;
                case BACK:
                    you--;
                    break;
                case SPEND:
                    spendStrongest();
                    break;
                case PUT:
                    putAll();
                    break;
                case TAKE:
                    lay(strongest(you), CARRIED);
                    break;
                default:
                    break;
            }
        }

        private void spendStrongest() {
            int b = strongest(CARRIED);
            coins = Math.min(MOST_COINS, coins + priceOf(classOf(b)));
            drain(b);
        }

        private void putAll() {
            for (int b = 0; b < bottles && b < MOST_BOTTLES; b++) {
                if (spots[b] == CARRIED) {
                    spots[b] = you;
                }
            }
        }

        /** An hour with an act that may be. */
        private void pass(int act) {
            perform(act);
            leakAll();
            if (isSunUp()) {
                thinAll();
            }
            if (wind != 0) {
                blowAll();
            }
            raiseMarshes();
            hour++;
            if (hour > LAST_HOUR) {
                hour = 0;
                days++;
            }
        }

        private void waitFor(int n) {
            for (int i = 0; i < n; i++) {
                pass(WAIT);
            }
        }

        private void leakAll() {
            for (int b = 0; b < bottles && b < MOST_BOTTLES; b++) {
                if (spots[b] != EMPTY) {
                    strengths[b] -= leakAt(spots[b]);
                    if (strengths[b] <= 0) {
                        drain(b);
                    }
                }
            }
        }

        private void thinAll() {
            for (int p = 0; p < places && p < MOST_PLACES; p++) {
                fogs[p] = Math.max(0, fogs[p] - sunTakes(p));
            }
        }

        private void blowAll() {
            for (int p = 0; p < places && p < MOST_PLACES; p++) {
                blown[p] = windTakes(p);
            }
            for (int p = 0; p < places && p < MOST_PLACES; p++) {
                int from = p - wind;
                int comes = hasPlace(from) ? blown[from] : 0;
                fogs[p] = Math.min(MOST_FOG, fogs[p] - blown[p] + comes);
            }
        }

        private void raiseMarshes() {
            for (int p = 0; p < places && p < MOST_PLACES; p++) {
                if (kinds[p] == MARSH) {
                    fogs[p] = Math.min(MOST_FOG, fogs[p] + traits[p]);
                }
            }
        }

        private void follow(int rule, int n) {
            for (int i = 0; i < n; i++) {
                pass(ruled(rule));
            }
        }

        /** The act of a rule: the first of its acts that may be. */
        private int ruled(int rule) {
            boolean canSpend = allows(SPEND);
            if (canSpend && (rule == GREEDY || (rule == MARKET && classOf(strongest(CARRIED)) == CLASSES - 1))) {
                return SPEND;
            }
            if (allows(GATHER)) {
                return GATHER;
            }
            if (rule == DOWN && isOfKind(you, CELLAR) && allows(PUT)) {
                return PUT;
            }
            if (rule == DOWN && allows(ON)) {
                return ON;
            }
            return canSpend ? SPEND : WAIT;
        }

        /** A draw below n. */
        private int draw(int n) {
            seed = seed * 1103515245 + 12345;
            return n > 0 ? (seed >>> 16) % n : 0;
        }
    }

    /** A shelf; its elements are made once, so that no call makes any. */
    private static final class Shelf {
        private final long[] elements = new long[MOST_ELEMENTS];
        /** NONE, a place's number, or the mark of a row and its sort. */
        private int content = NONE;
        private int size = 0;

        private boolean isRow() {
            return content >= ROW_MARK;
        }

        private boolean isPlace() {
            return content >= 0 && content < ROW_MARK;
        }

        private boolean isOfAnotherSort(Shelf other) {
            return isRow() && other.isRow() && content != other.content;
        }

        /** Holds a place, or NONE: neither has elements. */
        private void hold(int place) {
            content = place;
            size = 0;
        }

        private void holdRow(int sort, int n) {
            content = ROW_MARK + sort;
            size = n;
            for (int i = 0; i < MOST_ELEMENTS; i++) {
                elements[i] = 0;
            }
        }

        private boolean hasElement(int i) {
            return i >= 0 && i < size && i < MOST_ELEMENTS;
        }

        /** Whether there are n elements from i on. */
        private boolean hasRange(int i, int n) {
            return i >= 0 && n >= 0 && size <= MOST_ELEMENTS && i <= size - n;
        }

        private void copyIn(Shelf from, int i, int j, int n) {
            if (from.hasRange(i, n) && hasRange(j, n)) {
                System.arraycopy(from.elements, i, elements, j, n);
            }
        }

        private long read(int i) {
            return hasElement(i) ? elements[i] : 0;
        }

        /** An element as it counts wherever a row tells something. */
        private int number(int i) {
            return hasElement(i) ? (int) elements[i] : 0;
        }

        private void write(int i, long v) {
            if (hasElement(i)) {
                elements[i] = kept(v);
            }
        }

        private long kept(long v) {
            switch (content - ROW_MARK) {
                case 0:
                    return (byte) v;
                case 1:
                    return (short) v;
                case 2:
                    return (int) v;
                default:
                    return v;
            }
        }
    }

    /** Reads a law and tells it over a draft as it goes, since later items build on earlier ones. */
    private static final class LawReader {
        private static final int WORDS = 10;

        private Shelf text = null;
        private Valley draft = null;
        private int at = 0;
        /** Where the number read last begins. */
        private int numberStart = 0;
        private int items = 0;
        private int fault = NONE;

        private void open(Shelf letters, Valley valley) {
            text = letters;
            draft = valley;
            at = 0;
            items = 0;
            fault = NONE;
        }

        private boolean goesOn() {
            return fault == NONE && text != null && (items == 0 || at < text.size);
        }

        private void fail(int place) {
            if (fault == NONE) {
                fault = place;
            }
        }

        private void readSign(int sign) {
            if (fault != NONE) {
                return;
            }
            if (letter() == sign) {
                at++;
            } else {
                fail(at);
            }
        }

        /** The letter at hand; 0 behind the end, which is no letter of any law. */
        private int letter() {
            return text == null ? 0 : text.number(at);
        }

        /** An item, and what parts it from the one ahead of it. */
        private void readItem() {
            if (items > 0) {
                readSign(';');
            }
            items++;
            int start = at;
            int word = readWord();
            Valley valley = draft;
            if (valley == null || word == NONE) {
                return;
            }
            switch (word) {
                case 0:
                    readPlace(valley, start);
                    break;
                case 1:
                case 2:
                case 3:
                    valley.wind = word - 2;
                    break;
                case 4:
                    valley.sun = readNumber(0, LATEST_SUN);
                    break;
                case 5:
                    valley.tender = readNumber(0, LAST_HOUR);
                    break;
                case 6:
                    readPrice(valley);
                    break;
                case 7:
                    readFog(valley);
                    break;
                case 8:
                    readBottle(valley, start);
                    break;
                default:
                    readHour(valley);
            }
        }

        private static String wordAt(int word) {
            switch (word) {
                case 0:
                    return "place";
                case 1:
                    return "west";
                case 2:
                    return "calm";
                case 3:
                    return "east";
                case 4:
                    return "sun";
                case 5:
                    return "tender";
                case 6:
                    return "price";
                case 7:
                    return "fog";
                case 8:
                    return "bottle";
                default:
                    return "hour";
            }
        }

        /** The word at hand; if there is none, the fault is where the longest start of one breaks off. */
        private int readWord() {
            if (fault != NONE) {
                return NONE;
            }
            int most = 0;
            for (int w = 0; w < WORDS; w++) {
                String word = wordAt(w);
                int same = lettersAs(word);
                if (same == word.length()) {
                    at += same;
                    return w;
                }
                most = Math.max(most, same);
            }
            fail(at + most);
            return NONE;
        }

        private int lettersAs(String word) {
            int start = at;
            int same = 0;
            while (same < word.length() && letter() == word.charAt(same)) {
                same++;
                at++;
            }
            at = start;
            return same;
        }

        /** A blank and a number of one or two digits from low to high; 0 and a fault if there is none. */
        private int readNumber(int low, int high) {
            readSign(' ');
            if (fault != NONE) {
                return 0;
            }
            numberStart = at;
            int value = 0;
            for (int digit = 0; digit < 2 && isDigit(letter()); digit++) {
                value = 10 * value + letter() - '0';
                at++;
            }
            if (at == numberStart || !isWithin(value, low, high)) {
                fail(numberStart);
                return 0;
            }
            return value;
        }

        private static boolean isDigit(int letter) {
            return isWithin(letter, '0', '9');
        }

        private void readPlace(Valley valley, int start) {
            if (!valley.hasRoomForPlace()) {
                fail(start);
            }
            int kind = readNumber(0, KINDS - 1);
            int trait = readNumber(0, MOST_TRAIT);
            int fog = readNumber(0, MOST_FOG);
            if (fault == NONE) {
                valley.addPlace(kind, trait, fog);
            }
        }

        private void readPrice(Valley valley) {
            int rank = readNumber(1, CLASSES - 1);
            int price = readNumber(0, MOST_PRICE);
            if (fault == NONE) {
                valley.setPrice(rank, price);
            }
        }

        private void readFog(Valley valley) {
            int place = readNumber(0, valley.places - 1);
            int fog = readNumber(0, MOST_FOG);
            if (fault == NONE) {
                valley.setFog(place, fog);
            }
        }

        private void readBottle(Valley valley, int start) {
            if (valley.freeBottle() == NONE) {
                fail(start);
            }
            int place = readNumber(0, valley.places - 1);
            int strength = readNumber(1, MOST_STRENGTH);
            if (fault == NONE) {
                valley.fill(place, strength);
            }
        }

        private void readHour(Valley valley) {
            int act = readNumber(0, ACTS - 1);
            if (fault == NONE && !valley.allows(act)) {
                fail(numberStart);
            }
            if (fault == NONE) {
                valley.pass(act);
            }
        }
    }

    /** Looks through all rows of acts, lower numbers first, so that of several equals the first stays. */
    private static final class Search {
        /** How things stand behind so many acts: a valley for each depth, made once. */
        private final Valley[] stages = new Valley[ROW_FAR + 1];
        private final int[] acts = new int[ROW_FAR];
        private final int[] bestActs = new int[ROW_FAR];
        private int mostCoins = NONE;
        private int mostStrength = NONE;

        private Search() {
            for (int i = 0; i <= ROW_FAR; i++) {
                stages[i] = new Valley();
            }
        }

        private Valley stage(int depth) {
            return depth >= 0 && depth <= ROW_FAR ? stages[depth] : null;
        }

        private void start(Valley from, int n) {
            mostCoins = NONE;
            mostStrength = NONE;
            Valley first = stage(0);
            if (first != null) {
                first.become(from);
                explore(0, n);
            }
        }

        private void explore(int depth, int n) {
            Valley here = stage(depth);
            if (here == null) {
                return;
            }
            Valley next = stage(depth + 1);
            if (depth == n || depth >= ROW_FAR || next == null) {
                weigh(here);
                return;
            }
            for (int act = 0; act < ACTS; act++) {
                if (here.allows(act)) {
                    next.become(here);
                    next.pass(act);
                    acts[depth] = act;
                    explore(depth + 1, n);
                }
            }
        }

        private void weigh(Valley end) {
            int strength = end.strengthCarried();
            if (end.coins < mostCoins || (end.coins == mostCoins && strength <= mostStrength)) {
                return;
            }
            mostCoins = end.coins;
            mostStrength = strength;
            System.arraycopy(acts, 0, bestActs, 0, ROW_FAR);
        }

        private int bestAct(int i) {
            return i >= 0 && i < ROW_FAR ? bestActs[i] : NONE;
        }
    }

    /** The moves of places: bodies by kinds, and the trace of those that ran. */
    private static final class Moves {
        private static final int DRIFTS = 0;
        private static final int THINS = 1;
        private static final int LEAKS = 2;
        private static final int MOVES = 3;
        private static final int KEPT_BODIES = 20;
        /** Far above the longest chain of bodies that call one another. */
        private static final int DEEPEST = 30;

        private final int[] bodies = new int[KEPT_BODIES];
        private int ran = 0;
        private int number = 0;
        private int kind = 0;
        private int trait = 0;

        private boolean hasMove(int move) {
            return move >= 0 && move < MOVES;
        }

        private void forget() {
            ran = 0;
        }

        private int start(int place, int kindOfPlace, int traitOfPlace, int move, int x) {
            forget();
            number = place;
            kind = kindOfPlace;
            trait = traitOfPlace;
            return run(move, kind, x, 0);
        }

        private int bodyAt(int i) {
            return i >= 0 && i < ran && i < KEPT_BODIES ? bodies[i] : NONE;
        }

        private void note(int body) {
            if (ran >= 0 && ran < KEPT_BODIES) {
                bodies[ran] = body;
            }
            ran++;
        }

        /** The number of the kind's own body; NONE if it has none. */
        private static int bodyOf(int kind, int move) {
            switch (MOVES * kind + move) {
                case MOVES * FIELD + DRIFTS:
                    return 10;
                case MOVES * FIELD + THINS:
                    return 11;
                case MOVES * FIELD + LEAKS:
                    return 12;
                case MOVES * CELLAR + DRIFTS:
                    return 20;
                case MOVES * BRIDGE + THINS:
                    return 30;
                case MOVES * VAULT + THINS:
                    return 40;
                case MOVES * HILL + LEAKS:
                    return 50;
                case MOVES * HILL + DRIFTS:
                    return 51;
                case MOVES * MARSH + LEAKS:
                    return 60;
                case MOVES * PEAK + DRIFTS:
                    return 70;
                case MOVES * PEAK + THINS:
                    return 71;
                default:
                    return NONE;
            }
        }

        /** Runs the first body from a kind upwards. */
        private int run(int move, int from, int x, int depth) {
            int owner = from;
            for (int step = 0; step < KINDS && owner != NONE && bodyOf(owner, move) == NONE; step++) {
                owner = above(owner);
            }
            if (owner == NONE || depth > DEEPEST) {
                return 0;
            }
            int body = bodyOf(owner, move);
            int parent = above(owner);
            int deeper = depth + 1;
            note(body);
            switch (body) {
                case 10:
                    return x + number;
                case 11:
                    return run(DRIFTS, kind, x, deeper) * 2;
                case 12:
                    return run(THINS, kind, x, deeper) ^ run(DRIFTS, kind, x - trait, deeper);
                case 20:
                    return run(move, parent, x, deeper) + trait;
                case 30:
                    return run(move, parent, x, deeper) * 3;
                case 40:
                    return run(move, parent, x + 1, deeper);
                case 50:
                    return -run(move, parent, x, deeper);
                case 51:
                    return run(move, parent, x, deeper) - number;
                case 60:
                    return run(move, parent, x, deeper) ^ 5;
                case 70:
                    return run(move, parent, x, deeper) * 2;
                case 71:
                    return run(move, parent, x - trait, deeper);
                default:
                    return 0;
            }
        }
    }
}
