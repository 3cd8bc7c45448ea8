/** Quotes and the yield that suits all, sentence by sentence; promises 29 to 32. */
public final class QuoteEdgesTest extends Edges {
    private static final String DESK = "desk from 20000101 cash 0";
    /** One payment of 100, a year of 360 days on: at the yield y it is worth 100 / (1 + y). */
    private static final String YEAR = DESK + ";bond 0 per 1 euro mature 20010101 issue 20000101";
    private static final String QUOTE = ";quote 0 20000101 ";

    public static void main(String[] args) {
        quote();
        off();
        flat();
        cheapest();
        finish();
    }

    private static void quote() {
        edge("29", "Of a quote 0 the bond, 1 the DATE, 2 PRICE.", () -> {
            BondCalendars x = of(YEAR + ";bond 1 per 1 euro mature 20791231 issue 20791230"
                    + ";quote 0 20000101 1;quote 1 20791230 99999;quote 0 20001231 10000");
            int[][] all = {{0, 20000101, 1}, {1, 20791230, 99999}, {0, 20001231, 10000}};
            for (int i = 0; i < 3; i++) {
                for (int what = 0; what < 3; what++) {
                    due(x, "quote(" + i + ", " + what + ")", x.quote(i, what), all[i][what], 0);
                }
            }
        });
        edge("29", "NONE: 1 (what, too).", () -> {
            BondCalendars x = of(YEAR + QUOTE + "9000" + QUOTE + "9100");
            BondCalendars none = new BondCalendars();
            due(none, "no DESK", none.quote(0, 0), -1, 1);
            due(x, "quote(2, 0)", x.quote(2, 0), -1, 1);
            due(x, "quote(-1, 0)", x.quote(-1, 0), -1, 1);
            due(x, "quote(0, 3)", x.quote(0, 3), -1, 1);
            due(x, "quote(0, -1)", x.quote(0, -1), -1, 1);
            due(x, "quote(6, 0)", x.quote(6, 0), -1, 1);
            for (int far : FAR) {
                due(x, "quote(" + far + ", 0)", x.quote(far, 0), -1, 1);
                due(x, "quote(0, " + far + ")", x.quote(0, far), -1, 1);
            }
            tell(x, YEAR + QUOTE + "9000");
            due(x, "a former DESK's", x.quote(1, 0), -1, 1);
            tell(x, YEAR);
            due(x, "without quotes", x.quote(0, 0), -1, 1);
        });
    }

    private static double price(int z) {
        return 0.0 + 100.0 / (1.0 + z / 10000.0 * 1.0);
    }

    private static void off() {
        edge("30", "How far they are off at z points (0 .. 2,000): from 0.0 on, quote by quote, + the greater of CLEAN - PRICE / 100.0 and PRICE / 100.0 - CLEAN: bits.", () -> {
            BondCalendars x = of(YEAR + QUOTE + "9000" + QUOTE + "9700" + QUOTE + "9950");
            for (int z : new int[] {0, 1, 250, 500, 1999, 2000}) {
                double sum = 0.0;
                for (double quoted : new double[] {90.0, 97.0, 99.5}) {
                    sum = sum + Math.max(price(z) - quoted, quoted - price(z));
                }
                dueDouble("off(" + z + ")", x.off(z), sum);
                due("trouble()", x.trouble(), 0);
            }
            dueDouble("nothing off", of(YEAR + QUOTE + "10000").off(0), 0.0);
            dueDouble("off by dearer", of(YEAR + QUOTE + "10001").off(0), 10001 / 100.0 - 100.0);
            dueDouble("off by cheaper", of(YEAR + QUOTE + "9999").off(0), 100.0 - 9999 / 100.0);
            dueDouble("without quotes", of(YEAR).off(2000), 0.0);
            dueDouble("without bonds", of(DESK).off(0), 0.0);
            // CLEAN, not DIRTY: 3 of 106 are accrued.
            String half = DESK + ";bond 600 per 1 euro mature 20010101 issue 20000101;quote 0 20000701 10300";
            dueDouble("what is accrued doesn't count", of(half).off(0), 0.0);
            // What has been held or gone by changes nothing.
            BondCalendars y = of(YEAR + QUOTE + "9000");
            y.deal(0, 1, 1);
            y.go(4000);
            dueDouble("behind mature", y.off(0), 10.0);
        });
        edge("30", "Long.MIN_VALUE: 1 (no DESK); 2.", () -> {
            BondCalendars none = new BondCalendars();
            due(none, "no DESK", none.off(0), NO_LONG, 1);
            due(none, "1 ahead of 2", none.off(-1), NO_LONG, 1);
            BondCalendars x = of(YEAR + QUOTE + "9000");
            due(x, "-1", x.off(-1), NO_LONG, 2);
            due(x, "2,001", x.off(2001), NO_LONG, 2);
            for (int far : FAR) {
                due(x, "off(" + far + ")", x.off(far), NO_LONG, 2);
            }
        });
    }

    private static void flat() {
        edge("31", "The z (0 .. 2,000) by which they are off least, the least such;", () -> {
            flatIs(YEAR + QUOTE + "10000", 0);
            flatIs(YEAR + QUOTE + "12000", 0);
            flatIs(YEAR + QUOTE + "9999", 1);
            flatIs(YEAR + QUOTE + "9998", 2);
            flatIs(YEAR + QUOTE + "9524", 500);
            flatIs(YEAR + QUOTE + "8334", 1999);
            flatIs(YEAR + QUOTE + "8333", 2000);
            flatIs(YEAR + QUOTE + "5000", 2000);
            flatIs(YEAR + QUOTE + "1", 2000);
            // Of two quotes all between are off alike, give or take a rounding; of three the middle one counts.
            flatIs(YEAR + QUOTE + "9000" + QUOTE + "9700" + QUOTE + "9950", best(YEAR + QUOTE + "9700"));
            // At any yield alike: the least.
            flatIs(DESK + ";bond 600 per 1 euro mature 20000131 issue 20000130;quote 0 20000130 9000", 0);
            flatIs(YEAR + QUOTE + "9000" + QUOTE + "9500", best(YEAR + QUOTE + "9000" + QUOTE + "9500"));
            // It is a new DESK's own.
            BondCalendars x = of(YEAR + QUOTE + "9524");
            due("flat", x.flat(), 500);
            tell(x, YEAR + QUOTE + "9999");
            due("flat anew", x.flat(), 1);
            tell(x, YEAR + QUOTE + "9998");
            due("flat anew, again", x.flat(), 2);
            tell(x, YEAR + QUOTE + "9999");
            due("flat anew, once more", x.flat(), 1);
            tell(x, YEAR + QUOTE);
            due("flat behind a FAULT", x.flat(), 1);
            x.go(400);
            due("flat behind mature", x.flat(), 1);
        });
        edge("31", "-2 without quotes.", () -> {
            BondCalendars x = of(YEAR);
            due(x, "a bond, no quote", x.flat(), -2, 0);
            x = of(DESK);
            due(x, "no bond", x.flat(), -2, 0);
            x = of(YEAR + QUOTE + "9524");
            due("with one", x.flat(), 500);
            tell(x, YEAR);
            due(x, "without it", x.flat(), -2, 0);
        });
        edge("31", "NONE: 1 (no DESK).", () -> {
            BondCalendars x = new BondCalendars();
            due(x, "no DESK", x.flat(), -1, 1);
            tell(x, "desk");
            due(x, "no DESK behind a FAULT", x.flat(), -1, 1);
        });
    }

    private static void flatIs(String text, int z) {
        BondCalendars x = of(text);
        due(x, "flat of " + text, x.flat(), z, 0);
        due(x, "and again", x.flat(), z, 0);
    }

    /** The least z of the least off(z), by asking for all of them. */
    private static int best(String text) {
        int best = -1;
        double least = Double.MAX_VALUE;
        BondCalendars x = null;
        for (int z = 0; z <= 2000; z++) {
            if (z % 400 == 0) {
                x = of(text);
            }
            double off = valueOf(x.off(z));
            if (off < least) {
                least = off;
                best = z;
            }
        }
        return best;
    }

    private static void cheapest() {
        edge("32", "The quote of the greatest LOW, 40 times narrowed, of those whose BRACKET HOLDS, of several the first; -2.", () -> {
            cheapestIs(YEAR, -2);
            cheapestIs(DESK, -2);
            cheapestIs(YEAR + QUOTE + "9000", 0);
            cheapestIs(YEAR + QUOTE + "9000" + QUOTE + "8999", 1);
            cheapestIs(YEAR + QUOTE + "8999" + QUOTE + "9000", 0);
            cheapestIs(YEAR + QUOTE + "9000" + QUOTE + "9000", 0);
            cheapestIs(YEAR + QUOTE + "9000" + QUOTE + "8000" + QUOTE + "8000" + QUOTE + "9000" + QUOTE + "8000" + QUOTE + "8001", 1);
            cheapestIs(YEAR + QUOTE + "9000" + QUOTE + "8900" + QUOTE + "8800" + QUOTE + "8700" + QUOTE + "8600" + QUOTE + "8500", 5);
            // 4,999 and 12,501 don't HOLD, 5,000 and 12,500 do.
            cheapestIs(YEAR + QUOTE + "4999", -2);
            cheapestIs(YEAR + QUOTE + "12501", -2);
            cheapestIs(YEAR + QUOTE + "4999" + QUOTE + "12501" + QUOTE + "1" + QUOTE + "99999", -2);
            cheapestIs(YEAR + QUOTE + "12500", 0);
            cheapestIs(YEAR + QUOTE + "4999" + QUOTE + "12500", 1);
            cheapestIs(YEAR + QUOTE + "12500" + QUOTE + "5000" + QUOTE + "4999", 1);
            // A LOW below 0 is as good as any other.
            cheapestIs(YEAR + QUOTE + "12501" + QUOTE + "12000" + QUOTE + "11999", 2);
            fortyTimes();
        });
        edge("32", "NONE: 1 (no DESK).", () -> {
            BondCalendars x = new BondCalendars();
            due(x, "no DESK", x.cheapest(), -1, 1);
            tell(x, "desk");
            due(x, "no DESK behind a FAULT", x.cheapest(), -1, 1);
        });
    }

    private static void cheapestIs(String text, int i) {
        BondCalendars x = of(text);
        due(x, "cheapest of " + text, x.cheapest(), i, 0);
    }

    /** The greatest LOW is that of bracket(.., 40, false); 39 or 41 times would put these in another order. */
    private static void fortyTimes() {
        String[] texts = {
            "desk from 20000101 cash 0;bond 1568 per 2 actual mature 20320601 issue 20000101;quote 0 20091201 10000;quote 0 20180601 10000",
            "desk from 20000101 cash 0;bond 508 per 1 actual mature 20490309 issue 20000101;quote 0 20090309 10000;quote 0 20170309 10000"};
        for (String text : texts) {
            BondCalendars x = of(text);
            double first = valueOf(x.bracket(0, x.quote(0, 1), 10000, 40, false));
            double second = valueOf(x.bracket(0, x.quote(1, 1), 10000, 40, false));
            dueTrue("the second has more", second > first);
            due("cheapest of " + text, x.cheapest(), 1);
        }
    }
}
