/** All that an object shows of its state, as a text; refusals are left out. It uses the object up. */
final class Snapshot {
    private static final int ELEMENTS = 16;

    private Snapshot() {
    }

    static String of(PaidInFog x) {
        StringBuilder text = new StringBuilder();
        appendShelves(x, text);
        text.append(" fault ").append(x.fault()).append(" trace");
        for (int i = 0; i < 8; i++) {
            text.append(' ').append(x.trace(i));
        }
        appendValley(x, text);
        text.append(" image ").append(x.restore());
        appendValley(x, text);
        return text.toString();
    }

    private static void appendShelves(PaidInFog x, StringBuilder text) {
        text.append("shelves");
        for (int s = 0; s < 8; s++) {
            int held = x.holds(s);
            text.append(' ').append(held);
            for (int i = 0; held >= 100 && i < ELEMENTS; i++) {
                text.append(',').append(x.element(s, i));
            }
        }
    }

    private static void appendValley(PaidInFog x, StringBuilder text) {
        text.append(" status");
        for (int what = 0; what <= 20; what++) {
            if (what < 11 || what > 17) {
                text.append(' ').append(x.status(what));
            }
        }
        text.append(" places");
        for (int p = 0; p < x.status(0); p++) {
            for (int what = 0; what <= 3; what++) {
                text.append(' ').append(x.placeOf(p, what));
            }
            text.append(';');
        }
        text.append(" bottles");
        for (int b = 0; b < x.status(1); b++) {
            text.append(' ').append(x.bottleOf(b, 0)).append(' ').append(x.bottleOf(b, 2)).append(';');
        }
        text.append(" prices");
        for (int what = 3; what <= 5; what++) {
            int price = x.ask(what, 0);
            x.ask(what, price);
            text.append(' ').append(price);
        }
    }
}
