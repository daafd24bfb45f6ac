/** All that an object answers about its plan, as one text. It takes some tens of the 512 calls that an object has. */
final class Seen {
    private Seen() { }

    static String all(FaultRips x) {
        String worth = Check.answer(x::worth);
        if (worth.startsWith("throws")) {
            return worth;
        }
        return worth + " of " + x.bound() + " " + x.greatest() + pieces(x) + rows(x) + prices(x) + panels(x);
    }

    private static String pieces(FaultRips x) {
        StringBuilder text = new StringBuilder(" pieces");
        int n = x.at(FaultRips.NONE, 0);
        for (int k = 0; k < n; k++) {
            for (int what = 0; what < 6; what++) {
                text.append(what == 0 ? " " : ",").append(x.at(k, what));
            }
            text.append(x.clear2(k) ? "c" : "f");
        }
        return text.toString();
    }

    private static String rows(FaultRips x) {
        StringBuilder text = new StringBuilder(" rows");
        int n = x.salvage(FaultRips.NONE, 0);
        for (int k = 0; k < n; k++) {
            text.append(" ").append(x.salvage(k, 0)).append(",").append(x.salvage(k, 1)).append(",").append(x.salvage(k, 2));
        }
        return text.toString();
    }

    private static String prices(FaultRips x) {
        StringBuilder text = new StringBuilder(" prices");
        for (int i = 0; i < 8; i++) {
            int piece = i;
            String first = Check.answer(() -> x.price(piece, 0));
            if (first.startsWith("throws")) {
                break;
            }
            text.append(" ").append(first).append(",").append(x.price(i, 1)).append(",").append(x.price(i, 2));
        }
        return text.toString();
    }

    private static String panels(FaultRips x) {
        StringBuilder text = new StringBuilder(" panels");
        for (int width = 1; width <= 4; width++) {
            text.append(" ").append(x.panel(width, 0)).append(",").append(x.panel(width, 1));
        }
        return text.toString();
    }
}
