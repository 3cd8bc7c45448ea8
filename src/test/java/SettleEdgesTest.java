/** Term III, SETTLES, prices and yields, sentence by sentence; promises 19 to 28. */
public final class SettleEdgesTest extends Edges {
    private static final String DESK = "desk from 20000101 cash 0";
    /** PERIODS 20000110 .. 20000701 .. 20010101 .. 20010301; EX three BUSINESS DAYS ahead. */
    private static final String ODD = DESK + ";bond 600 per 2 euro mature 20010301 last 20010101 issue 20000110 ex 3";
    /** One payment of 100, a year of 360 days on: at the yield y it is worth 100 / (1 + y). */
    private static final String YEAR = DESK + ";bond 0 per 1 euro mature 20010101 issue 20000101";
    /** One payment of 100 in no time at all: it is worth 100 at any yield. */
    private static final String TIMELESS = DESK + ";bond 600 per 1 euro mature 20000131 issue 20000130";
    private static final int S = 20000110;

    public static void main(String[] args) {
        settleTerms();
        accruedTerms();
        numberTerms();
        dirtyTerms();
        bracketTerms();
        narrowTerms();
        refusals();
        current();
        isEx();
        accrued();
        rest();
        dirty();
        clean();
        risk();
        bracket();
        narrows();
        pointsAt();
        finish();
    }

    private static void accruedIs(BondCalendars x, int s, long upper, long lower) {
        dueRatio("accrued at " + s, x.accrued(0, s, false), x.accrued(0, s, true), upper, lower);
    }

    private static void restIs(BondCalendars x, int s, long upper, long lower) {
        dueRatio("rest at " + s, x.rest(0, s, false), x.rest(0, s, true), upper, lower);
    }

    // ---- Term III

    private static void settleTerms() {
        edge("III", "A SETTLE s of a bond: a DATE, its issue at the earliest, earlier than its mature.", () -> {
            BondCalendars x = of(ODD);
            due(x, "the day ahead of issue", x.current(0, 20000109), -1, 5);
            due(x, "issue", x.current(0, 20000110), 0, 0);
            due(x, "the day ahead of mature", x.current(0, 20010228), 2, 0);
            due(x, "mature", x.current(0, 20010301), -1, 5);
            due(x, "no DATE", x.current(0, 20010229), -1, 2);
            due(x, "the earliest DATE", x.current(0, 19800101), -1, 5);
            due(x, "the latest DATE", x.current(0, 20791231), -1, 5);
            // A SETTLE has nothing to do with NOW.
            x = of("desk from 20300101 cash 0" + ODD.substring(DESK.length()));
            due(x, "issue, long ago", x.current(0, 20000110), 0, 0);
            x = of(DESK + ";bond 1 per 1 euro mature 20000111 issue 20000110");
            due(x, "a bond of a day", x.current(0, 20000110), 0, 0);
            due(x, "and no more", x.current(0, 20000111), -1, 5);
        });
        edge("III", "CURRENT: the PERIOD with START at s at the latest, END later.", () -> {
            BondCalendars x = of(ODD);
            due("at START", x.current(0, 20000110), 0);
            due("ahead of END", x.current(0, 20000630), 0);
            due("at END", x.current(0, 20000701), 1);
            due("ahead of last", x.current(0, 20001231), 1);
            due("at last", x.current(0, 20010101), 2);
            due("ahead of mature", x.current(0, 20010228), 2);
            x = of(DESK + ";bond 1 per 4 euro mature 20050102 last 20050101 issue 19850101");
            due("the first of 81", x.current(0, 19850101), 0);
            due("the last but one of 81", x.current(0, 20041231), 79);
            due("the last of 81", x.current(0, 20050101), 80);
        });
        edge("III", "s IS EX, if EX of that is s at the latest.", () -> {
            BondCalendars x = of(ODD);
            // END 20000701 is a Saturday: EX is Wednesday 20000628.
            due("EX", x.period(0, 0, 3), 20000628);
            due("the day ahead of EX", x.isEx(0, 20000627), 0);
            due("on EX", x.isEx(0, 20000628), 1);
            due("behind EX", x.isEx(0, 20000629), 1);
            due("the day ahead of END", x.isEx(0, 20000630), 1);
            due("at END it is the next PERIOD's", x.isEx(0, 20000701), 0);
            // EX of a short PERIOD lies ahead of its START: all of it IS EX.
            BondCalendars shorter = of(DESK + ";bond 600 per 2 euro mature 20010103 last 20010101 issue 20000110 ex 3");
            due("EX ahead of START", shorter.period(0, 2, 3), 20001229);
            due("then the PERIOD before is not EX by it", shorter.isEx(0, 20001226), 0);
            due("but by its own", shorter.isEx(0, 20001227), 1);
            due("at START", shorter.isEx(0, 20010101), 1);
            due("at the end", shorter.isEx(0, 20010102), 1);
            // Without ex EX is END, so nothing ever IS EX.
            BondCalendars without = of(DESK + ";bond 600 per 2 euro mature 20010101 issue 20000110");
            due("without ex", without.isEx(0, 20000630), 0);
            due("without ex, at the end", without.isEx(0, 20001231), 0);
        });
    }

    private static void accruedTerms() {
        edge("III", "ACCRUED: RATE by 100, times the FRACTION from START to s; less the COUPON of that PERIOD, if s IS EX.", () -> {
            BondCalendars x = of(ODD);
            accruedIs(x, 20000110, 0, 1);
            accruedIs(x, 20000111, 1, 60);
            accruedIs(x, 20000627, 167, 60);
            // 168 of 360 less 171.
            accruedIs(x, 20000628, -1, 20);
            accruedIs(x, 20000630, -1, 60);
            accruedIs(x, 20000701, 0, 1);
            accruedIs(x, 20010101, 0, 1);
            accruedIs(x, 20010102, 1, 60);
            BondCalendars shorter = of(DESK + ";bond 600 per 2 euro mature 20010103 last 20010101 issue 20000110 ex 3");
            accruedIs(shorter, 20010101, -1, 30);
            accruedIs(of(DESK + ";bond 0 per 1 euro mature 20010103 issue 20000110 ex 3"), 20010102, 0, 1);
            accruedIs(of(DESK + ";bond 2000 per 1 fixed mature 20010101 issue 20000101"), 20001231, 20, 1);
            // actual: 91 of twice 182 days, then less a half.
            BondCalendars actual = of(DESK + ";bond 200 per 2 actual mature 20000701 issue 20000101 ex 10");
            accruedIs(actual, 20000401, 1, 2);
            accruedIs(actual, 20000630, -1, 182);
            // From a 30th to a 31st no time goes by, so a day ahead of END all may be accrued.
            BondCalendars thirty = of(DESK + ";bond 600 per 4 thirty mature 20000331 issue 20000131");
            accruedIs(thirty, 20000330, 1, 1);
        });
        edge("III", "REST: RATE by 100, times the FRACTION from s to its END.", () -> {
            BondCalendars x = of(ODD);
            restIs(x, 20000110, 57, 20);
            restIs(x, 20000627, 1, 15);
            // That s IS EX changes nothing here.
            restIs(x, 20000628, 1, 20);
            restIs(x, 20000630, 1, 60);
            restIs(x, 20000701, 3, 1);
            restIs(x, 20010228, 1, 20);
            restIs(of(TIMELESS), 20000130, 0, 1);
            restIs(of(DESK + ";bond 0 per 1 euro mature 20010103 issue 20000110"), 20000110, 0, 1);
            // Not the COUPON less ACCRUED: by thirty a 31st is counted from a 30th otherwise than from a 29th.
            BondCalendars thirty = of(DESK + ";bond 360 per 1 thirty mature 20000331 issue 19990401");
            restIs(thirty, 20000329, 1, 50);
            restIs(thirty, 20000330, 0, 1);
        });
    }

    private static void numberTerms() {
        edge("III", "Numbers that are no WHOLES are told in lowest terms, the upper or the lower WHOLE (0 by 1), or as doubles, by their bits;", () -> {
            BondCalendars x = of(ODD);
            dueRatio("a WHOLE", x.coupon(0, 1, false), x.coupon(0, 1, true), 3, 1);
            dueRatio("none", x.accrued(0, 20000701, false), x.accrued(0, 20000701, true), 0, 1);
            dueRatio("below 0: the upper is, the lower never", x.accrued(0, 20000628, false), x.accrued(0, 20000628, true), -1, 20);
            due("bits of 100.0", of(TIMELESS).dirty(0, 20000130, 0), 0x4059000000000000L);
            due("bits of 0.0", of(TIMELESS).risk(0, 20000130, 0), 0L);
            due("bits of 1.0", of(YEAR).bracket(0, 20000101, 9000, 0, true), 0x3FF0000000000000L);
            due("bits of -0.2", of(YEAR).bracket(0, 20000101, 9000, 0, false), 0xBFC999999999999AL);
            // Below 1, below 2, at powers of two, next to them.
            for (int cash : new int[] {0, 1, 24, 25, 26, 49, 50, 51, 99, 100, 101, 199, 200, 399, 400, 12799, 12800, 12801, 99999999}) {
                BondCalendars y = of("desk from 20000101 cash " + cash);
                dueDouble("worth of " + cash, y.worth(0), cash / 100.0);
            }
        });
        edge("III", "a WHOLE by a WHOLE as a double: the upper WHOLE as a double, divided by the lower one (in lowest terms).", () -> {
            // A COUPON of 7 by 30: 0.07 times (10/3) in another order rounds otherwise.
            BondCalendars x = of(DESK + ";bond 70 per 1 euro mature 20000501 issue 20000101");
            dueRatio("coupon", x.coupon(0, 0, false), x.coupon(0, 0, true), 7, 30);
            dueDouble("dirty at 0", x.dirty(0, 20000101, 0), 0.0 + (7.0 / 30.0 + 100.0) / 1.0);
            for (int s = 20000102; s <= 20000131; s++) {
                double accrued = (double) x.accrued(0, s, false) / (double) x.accrued(0, s, true);
                dueDouble("clean at 0 on " + s, x.clean(0, s, 0), (0.0 + (7.0 / 30.0 + 100.0) / 1.0) - accrued);
            }
        });
    }

    private static void dirtyTerms() {
        edge("III", "DIRTY at a yield y: G is 1.0 + y * f (f: the FRACTION from s to END of CURRENT); V is 0.0;", () -> {
            BondCalendars x = of(YEAR);
            dueDouble("a year ahead", x.dirty(0, 20000101, 500), 100.0 / (1.0 + 0.05 * 1.0));
            dueDouble("half a year ahead", x.dirty(0, 20000701, 500), 100.0 / (1.0 + 0.05 * 0.5));
            dueDouble("a day ahead", x.dirty(0, 20001230, 500), 100.0 / (1.0 + 0.05 * (1.0 / 360.0)));
            dueDouble("in no time", of(TIMELESS).dirty(0, 20000130, 10000), 100.0);
            dueDouble("the greatest f, the least y", of(DESK + ";bond 0 per 1 money mature 20031231 issue 20001231 first 20031231")
                    .dirty(0, 20001231, -2000), 100.0 / (1.0 + -0.2 * (73.0 / 24.0)));
        });
        edge("III", "PERIOD by PERIOD from CURRENT on: but for CURRENT G becomes G * (1.0 + y * f) (f: its FRACTION);", () -> {
            BondCalendars x = of(ODD);
            double y = 777 / 10000.0;
            double g = 1.0 + y * (171.0 / 360.0);
            double v = 0.0 + 2.85 / g;
            g = g * (1.0 + y * 0.5);
            v = v + 3.0 / g;
            g = g * (1.0 + y * (1.0 / 6.0));
            v = v + (1.0 + 100.0) / g;
            dueDouble("from issue", x.dirty(0, 20000110, 777), v);
            g = 1.0 + y * 0.5;
            v = 0.0 + 3.0 / g;
            g = g * (1.0 + y * (1.0 / 6.0));
            v = v + (1.0 + 100.0) / g;
            dueDouble("from the second on", x.dirty(0, 20000701, 777), v);
            g = 1.0 + y * (1.0 / 6.0);
            dueDouble("from the last on", x.dirty(0, 20010101, 777), 0.0 + (1.0 + 100.0) / g);
            BondCalendars most = of(DESK + ";bond 0 per 4 euro mature 20050102 last 20050101 issue 19850101");
            g = 1.0 + -0.2 * 0.25;
            for (int k = 1; k < 80; k++) {
                g = g * (1.0 + -0.2 * 0.25);
            }
            g = g * (1.0 + -0.2 * (1.0 / 360.0));
            dueDouble("81 PERIODS", most.dirty(0, 19850101, -2000), 100.0 / g);
        });
        edge("III", "V becomes V + a / G (a: its COUPON, 0.0 of CURRENT if s IS EX; of the last PERIOD + 100.0).", () -> {
            BondCalendars x = of(ODD);
            dueDouble("not EX, at 0", x.dirty(0, 20000627, 0), 2.85 + 3.0 + 101.0);
            dueDouble("EX, at 0", x.dirty(0, 20000628, 0), 0.0 + 3.0 + 101.0);
            dueDouble("the next is paid in full", x.dirty(0, 20000701, 0), 3.0 + 101.0);
            // EX of the last: 100.0 alone; 20010301 is a Thursday.
            dueDouble("the last, not EX", x.dirty(0, 20010225, 0), 101.0);
            dueDouble("the last, EX", x.dirty(0, 20010226, 0), 100.0);
            dueDouble("the last, EX, at 500", x.dirty(0, 20010226, 500), 0.0 + (0.0 + 100.0) / (1.0 + 0.05 * (5.0 / 360.0)));
            dueDouble("a RATE of 0", of(YEAR).dirty(0, 20000101, 0), 100.0);
        });
        edge("III", "CLEAN: DIRTY - ACCRUED.", () -> {
            BondCalendars x = of(ODD);
            dueDouble("nothing accrued", x.clean(0, 20000110, 777), valueOf(x.dirty(0, 20000110, 777)));
            dueDouble("accrued", x.clean(0, 20000627, 777), valueOf(x.dirty(0, 20000627, 777)) - 167.0 / 60.0);
            dueDouble("EX: more than DIRTY", x.clean(0, 20000628, 777), valueOf(x.dirty(0, 20000628, 777)) - -1.0 / 20.0);
        });
        edge("III", "A yield in points z is z / 10000.0.", () -> {
            BondCalendars x = of(YEAR);
            for (int z : new int[] {-2000, -1999, -1, 0, 1, 3, 7, 333, 9999, 10000}) {
                dueDouble("at " + z, x.dirty(0, 20000101, z), 100.0 / (1.0 + z / 10000.0));
            }
        });
    }

    private static void bracketTerms() {
        edge("III", "THE BRACKET of a PRICE, n times narrowed: T is PRICE / 100.0 + ACCRUED; LOW -0.2, HIGH 1.0;", () -> {
            BondCalendars x = of(YEAR);
            dueDouble("LOW", x.bracket(0, 20000101, 9000, 0, false), -0.2);
            dueDouble("HIGH", x.bracket(0, 20000101, 9000, 0, true), 1.0);
            // T with something accrued: a bond of 6 by 100, half a year on, DIRTY 106 / (1 + y / 2).
            BondCalendars half = of(DESK + ";bond 600 per 1 euro mature 20010101 issue 20000101");
            double t = 9500 / 100.0 + 3.0;
            double middle = (-0.2 + 1.0) / 2.0;
            double v = 106.0 / (1.0 + -0.2 * 0.5);
            double w = 106.0 / (1.0 + middle * 0.5);
            double secant = -0.2 + (middle - -0.2) * ((v - t) / (v - w));
            dueDouble("HIGH, twice, by T", half.bracket(0, 20000701, 9500, 2, true), secant);
        });
        edge("III", "it HOLDS, if DIRTY at LOW is T at least, at HIGH T at most.", () -> {
            BondCalendars x = of(YEAR);
            // DIRTY at LOW is 125, at HIGH 50.
            due(x, "bits of LOW at 125", x.bracket(0, 20000101, 12500, 0, false), Double.doubleToLongBits(-0.2), 0);
            due(x, "125.01", x.bracket(0, 20000101, 12501, 0, false), NO_LONG, 5);
            due(x, "bits of LOW at 50", x.bracket(0, 20000101, 5000, 0, false), Double.doubleToLongBits(-0.2), 0);
            due(x, "49.99", x.bracket(0, 20000101, 4999, 0, false), NO_LONG, 5);
            x = of(TIMELESS);
            due(x, "100, both being equal", x.bracket(0, 20000130, 10000, 0, true), Double.doubleToLongBits(1.0), 0);
            due(x, "100.01", x.bracket(0, 20000130, 10001, 0, true), NO_LONG, 5);
            due(x, "99.99", x.bracket(0, 20000130, 9999, 0, true), NO_LONG, 5);
        });
    }

    private static void narrowTerms() {
        double middle = (-0.2 + 1.0) / 2.0;
        edge("III", "The i-th time (from 0): x is (LOW + HIGH) / 2.0;", () -> {
            BondCalendars x = of(YEAR);
            // DIRTY at the middle, 0.4, is 71.4..
            dueDouble("80: HIGH", x.bracket(0, 20000101, 8000, 1, true), middle);
            dueDouble("80: LOW", x.bracket(0, 20000101, 8000, 1, false), -0.2);
            dueDouble("60: LOW", x.bracket(0, 20000101, 6000, 1, false), middle);
            dueDouble("60: HIGH", x.bracket(0, 20000101, 6000, 1, true), 1.0);
            // The third time is by a middle again.
            double low = valueOf(x.bracket(0, 20000101, 8000, 2, false));
            double high = valueOf(x.bracket(0, 20000101, 8000, 2, true));
            double third = (low + high) / 2.0;
            dueTrue("80, thrice, by a middle", valueOf(x.bracket(0, 20000101, 8000, 3, false)) == third
                    || valueOf(x.bracket(0, 20000101, 8000, 3, true)) == third);
        });
        edge("III", "of odd i, if v, DIRTY at LOW, is more than w, DIRTY at HIGH:", () -> {
            // Neither is more: it goes by middles alone.
            BondCalendars x = of(TIMELESS);
            double low = -0.2;
            for (int n = 1; n <= 60; n++) {
                low = (low + 1.0) / 2.0;
                dueDouble("LOW, " + n, x.bracket(0, 20000130, 10000, n, false), low);
                dueDouble("HIGH, " + n, x.bracket(0, 20000130, 10000, n, true), 1.0);
            }
        });
        edge("III", "LOW + (HIGH - LOW) * ((v - T) / (v - w)), if that lies between LOW and HIGH (being neither).", () -> {
            BondCalendars x = of(YEAR);
            double v = 100.0 / (1.0 + -0.2 * 1.0);
            double w = 100.0 / (1.0 + middle * 1.0);
            dueDouble("80, twice", x.bracket(0, 20000101, 8000, 2, true), -0.2 + (middle - -0.2) * ((v - 80.0) / (v - w)));
            v = w;
            dueDouble("60, twice", x.bracket(0, 20000101, 6000, 2, true), middle + (1.0 - middle) * ((v - 60.0) / (v - 50.0)));
            // T is DIRTY at LOW: the secant is LOW itself, so a middle.
            double quarter = (-0.2 + middle) / 2.0;
            dueDouble("125, twice: HIGH", x.bracket(0, 20000101, 12500, 2, true), quarter);
            dueDouble("125, twice: LOW", x.bracket(0, 20000101, 12500, 2, false), -0.2);
            // T is DIRTY at HIGH: the secant is HIGH itself.
            dueDouble("50, twice: LOW", x.bracket(0, 20000101, 5000, 2, false), (middle + 1.0) / 2.0);
            dueDouble("50, twice: HIGH", x.bracket(0, 20000101, 5000, 2, true), 1.0);
        });
        edge("III", "If DIRTY at x is T at least, LOW is x, else HIGH.", () -> {
            // DIRTY at the middle, 0.4, is equal to T: 100 / (1 + 0.4 * 0.625) is 80.
            BondCalendars x = of(DESK + ";bond 0 per 1 euro mature 20010101 issue 20000101");
            double d = valueOf(x.dirty(0, 20000516, 4000));
            dueDouble("80 at 0.4", x.dirty(0, 20000516, 4000), 80.0);
            dueTrue("the middle is 0.4", middle == 0.4 && d == 80.0);
            dueDouble("equal: LOW", x.bracket(0, 20000516, 8000, 1, false), middle);
            dueDouble("equal: HIGH stays", x.bracket(0, 20000516, 8000, 1, true), 1.0);
            dueDouble("a hundredth more: LOW stays", x.bracket(0, 20000516, 8001, 1, false), -0.2);
            dueDouble("a hundredth more: HIGH", x.bracket(0, 20000516, 8001, 1, true), middle);
            dueDouble("a hundredth less: LOW", x.bracket(0, 20000516, 7999, 1, false), middle);
        });
    }

    // ---- promises 19 to 28

    private static void refusals() {
        edge("face", "settles: 1 (no such bond); then 2 (no DATE); then 5 (no SETTLE).", () -> {
            BondCalendars none = new BondCalendars();
            refused(none, 0, S, 0, 1);
            refused(none, 0, 20000230, 10001, 1);
            BondCalendars x = of(ODD);
            refused(x, 1, S, 0, 1);
            refused(x, -1, 20000230, 10001, 1);
            refused(x, Integer.MAX_VALUE, 20000109, 10001, 1);
            refused(x, Integer.MIN_VALUE, S, 10001, 1);
            x = of(ODD);
            refused(x, 0, 20000230, 0, 2);
            refused(x, 0, 20000230, 10001, 2);
            refused(x, 0, Integer.MIN_VALUE, 0, 2);
            refused(x, 0, Integer.MAX_VALUE, 0, 2);
            refused(x, 0, 19791231, 0, 2);
            refused(x, 0, 20800101, 0, 2);
            x = of(ODD);
            refused(x, 0, 20000109, 0, 5);
            refused(x, 0, 20010301, 0, 5);
        });
    }

    /** All calls with a SETTLE; z and a PRICE may be wrong, too, for those that have one. */
    private static void refused(BondCalendars x, int b, int s, int z, int trouble) {
        int price = z == 0 ? 10000 : 0;
        due(x, "current", x.current(b, s), -1, trouble);
        due(x, "isEx", x.isEx(b, s), -1, trouble);
        due(x, "accrued, upper", x.accrued(b, s, false), NO_LONG, trouble);
        due(x, "accrued, lower", x.accrued(b, s, true), NO_LONG, trouble);
        due(x, "rest, upper", x.rest(b, s, false), -1, trouble);
        due(x, "rest, lower", x.rest(b, s, true), -1, trouble);
        due(x, "dirty", x.dirty(b, s, z), NO_LONG, trouble);
        due(x, "clean", x.clean(b, s, z), NO_LONG, trouble);
        due(x, "risk", x.risk(b, s, z), NO_LONG, trouble);
        due(x, "bracket", x.bracket(b, s, price, 0, true), NO_LONG, trouble);
        due(x, "narrows", x.narrows(b, s, price), -1, trouble);
        due(x, "pointsAt", x.pointsAt(b, s, price), NO_INT, trouble);
    }

    private static void current() {
        edge("19", "CURRENT.", () -> {
            BondCalendars x = of(ODD);
            due(x, "at issue", x.current(0, 20000110), 0, 0);
            due(x, "at END", x.current(0, 20000701), 1, 0);
            due(x, "ahead of mature", x.current(0, 20010228), 2, 0);
        });
        edge("19", "NONE: 1; 2; 5.", () -> {
            BondCalendars x = of(ODD);
            due(x, "1 ahead of 2", x.current(1, 0), -1, 1);
            due(x, "2", x.current(0, 0), -1, 2);
            due(x, "5", x.current(0, 20010301), -1, 5);
        });
    }

    private static void isEx() {
        edge("20", "1 if s IS EX, 0.", () -> {
            BondCalendars x = of(ODD);
            due(x, "ahead of EX", x.isEx(0, 20000627), 0, 0);
            due(x, "at EX", x.isEx(0, 20000628), 1, 0);
            due(x, "at END", x.isEx(0, 20000701), 0, 0);
        });
        edge("20", "NONE: 1; 2; 5.", () -> {
            BondCalendars x = of(ODD);
            due(x, "1 ahead of 2", x.isEx(1, 0), -1, 1);
            due(x, "2", x.isEx(0, 0), -1, 2);
            due(x, "5", x.isEx(0, 20010301), -1, 5);
        });
    }

    private static void accrued() {
        edge("21", "ACCRUED (may be below 0).", () -> {
            BondCalendars x = of(ODD);
            due(x, "none, upper", x.accrued(0, 20000110, false), 0, 0);
            due(x, "none, lower", x.accrued(0, 20000110, true), 1, 0);
            due(x, "below 0, upper", x.accrued(0, 20000630, false), -1, 0);
            due(x, "below 0, lower", x.accrued(0, 20000630, true), 60, 0);
            // Long first PERIOD, all of it EX: the least of all.
            BondCalendars least = of(DESK + ";bond 2000 per 4 euro mature 20010103 last 20010101 issue 20001001 ex 10");
            due(least, "-20 times 2 by 360", least.accrued(0, 20010101, false), -1, 0);
            due(least, "lower of it", least.accrued(0, 20010101, true), 9, 0);
        });
        edge("21", "Long.MIN_VALUE: 1; 2; 5.", () -> {
            BondCalendars x = of(ODD);
            due(x, "1 ahead of 2", x.accrued(1, 0, true), NO_LONG, 1);
            due(x, "2", x.accrued(0, 0, false), NO_LONG, 2);
            due(x, "5", x.accrued(0, 20010301, true), NO_LONG, 5);
        });
    }

    private static void rest() {
        edge("22", "REST.", () -> {
            BondCalendars x = of(ODD);
            due(x, "upper", x.rest(0, 20000110, false), 57, 0);
            due(x, "lower", x.rest(0, 20000110, true), 20, 0);
            x = of(TIMELESS);
            due(x, "none, upper", x.rest(0, 20000130, false), 0, 0);
            due(x, "none, lower", x.rest(0, 20000130, true), 1, 0);
        });
        edge("22", "-1: 1; 2; 5.", () -> {
            BondCalendars x = of(ODD);
            due(x, "1 ahead of 2", x.rest(1, 0, true), -1, 1);
            due(x, "2", x.rest(0, 0, false), -1, 2);
            due(x, "5", x.rest(0, 20010301, true), -1, 5);
        });
    }

    private static void dirty() {
        edge("23", "DIRTY at z points (-2,000 .. 10,000): bits.", () -> {
            BondCalendars x = of(YEAR);
            dueDouble("-2,000", x.dirty(0, 20000101, -2000), 125.0);
            due("trouble()", x.trouble(), 0);
            dueDouble("10,000", x.dirty(0, 20000101, 10000), 50.0);
            due("trouble()", x.trouble(), 0);
            dueDouble("0", x.dirty(0, 20000101, 0), 100.0);
        });
        edge("23", "Long.MIN_VALUE: 1; 2 (z, too); 5.", () -> {
            BondCalendars x = of(ODD);
            due(x, "1 ahead of 2", x.dirty(1, S, -2001), NO_LONG, 1);
            due(x, "-2,001", x.dirty(0, S, -2001), NO_LONG, 2);
            due(x, "10,001", x.dirty(0, S, 10001), NO_LONG, 2);
            due(x, "2 ahead of 5", x.dirty(0, 20000109, 10001), NO_LONG, 2);
            due(x, "5", x.dirty(0, 20000109, 10000), NO_LONG, 5);
            for (int z : FAR) {
                due(x, "z " + z, x.dirty(0, S, z), NO_LONG, 2);
            }
        });
    }

    private static void clean() {
        edge("24", "CLEAN likewise.", () -> {
            BondCalendars x = of(YEAR);
            dueDouble("-2,000", x.clean(0, 20000101, -2000), 125.0);
            due("trouble()", x.trouble(), 0);
            dueDouble("10,000", x.clean(0, 20000101, 10000), 50.0);
            due("trouble()", x.trouble(), 0);
        });
        edge("24", "Long.MIN_VALUE: 1; 2; 5.", () -> {
            BondCalendars x = of(ODD);
            due(x, "1 ahead of 2", x.clean(1, S, -2001), NO_LONG, 1);
            due(x, "-2,001", x.clean(0, S, -2001), NO_LONG, 2);
            due(x, "10,001", x.clean(0, S, 10001), NO_LONG, 2);
            due(x, "2 ahead of 5", x.clean(0, 20000109, -2001), NO_LONG, 2);
            due(x, "5", x.clean(0, 20000109, -2000), NO_LONG, 5);
            for (int z : FAR) {
                due(x, "z " + z, x.clean(0, S, z), NO_LONG, 2);
            }
        });
    }

    private static void risk() {
        edge("25", "(DIRTY at z - 1 points - DIRTY at z + 1) / 2.0 (z -1,999 .. 9,999): bits.", () -> {
            BondCalendars x = of(YEAR);
            for (int z : new int[] {-1999, -1, 0, 1, 9999}) {
                double before = 100.0 / (1.0 + (z - 1) / 10000.0);
                double behind = 100.0 / (1.0 + (z + 1) / 10000.0);
                dueDouble("at " + z, x.risk(0, 20000101, z), (before - behind) / 2.0);
                due("trouble()", x.trouble(), 0);
            }
            dueDouble("none", of(TIMELESS).risk(0, 20000130, 9999), 0.0);
        });
        edge("25", "Long.MIN_VALUE: 1; 2; 5.", () -> {
            BondCalendars x = of(ODD);
            due(x, "1 ahead of 2", x.risk(1, S, -2000), NO_LONG, 1);
            due(x, "-2,000", x.risk(0, S, -2000), NO_LONG, 2);
            due(x, "10,000", x.risk(0, S, 10000), NO_LONG, 2);
            due(x, "2 ahead of 5", x.risk(0, 20000109, 10000), NO_LONG, 2);
            due(x, "5", x.risk(0, 20000109, 9999), NO_LONG, 5);
            for (int z : FAR) {
                due(x, "z " + z, x.risk(0, S, z), NO_LONG, 2);
            }
        });
    }

    private static void bracket() {
        edge("26", "THE BRACKET of a PRICE (1 .. 99,999), n times narrowed (0 .. 60): bits of LOW or HIGH.", () -> {
            BondCalendars x = of(YEAR);
            dueDouble("not at all: LOW", x.bracket(0, 20000101, 9000, 0, false), -0.2);
            dueDouble("not at all: HIGH", x.bracket(0, 20000101, 9000, 0, true), 1.0);
            double low = valueOf(x.bracket(0, 20000101, 9000, 60, false));
            double high = valueOf(x.bracket(0, 20000101, 9000, 60, true));
            dueTrue("60 times: round 1 by 9", low <= 1.0 / 9.0 + 1e-15 && high >= 1.0 / 9.0 - 1e-15 && high - low < 1e-8);
            // A PRICE of 99,999 HOLDS for a dear one: 81 years at 20 by 100; one of 1 for a far one.
            BondCalendars dear = of(DESK + ";bond 2000 per 1 euro mature 20500101 issue 20000101");
            due(dear, "99,999", dear.bracket(0, 20000101, 99999, 0, true), Double.doubleToLongBits(1.0), 0);
            BondCalendars far = of(DESK + ";bond 0 per 4 euro mature 20200101 issue 20000101");
            due(far, "1", far.bracket(0, 20000101, 1, 0, true), Double.doubleToLongBits(1.0), 0);
        });
        edge("26", "Long.MIN_VALUE: 1; 2; 5 (it doesn't HOLD, too).", () -> {
            BondCalendars x = of(YEAR);
            due(x, "1 ahead of 2", x.bracket(1, 20000101, 0, 61, true), NO_LONG, 1);
            due(x, "PRICE 0", x.bracket(0, 20000101, 0, 0, true), NO_LONG, 2);
            due(x, "PRICE 100,000", x.bracket(0, 20000101, 100000, 0, true), NO_LONG, 2);
            due(x, "61 times", x.bracket(0, 20000101, 9000, 61, true), NO_LONG, 2);
            due(x, "-1 times", x.bracket(0, 20000101, 9000, -1, false), NO_LONG, 2);
            due(x, "2 ahead of 5, no SETTLE", x.bracket(0, 20010101, 9000, 61, false), NO_LONG, 2);
            due(x, "2 ahead of 5, not HOLDING", x.bracket(0, 20000101, 99999, 61, false), NO_LONG, 2);
            due(x, "no SETTLE", x.bracket(0, 20010101, 9000, 0, false), NO_LONG, 5);
            due(x, "too dear", x.bracket(0, 20000101, 12501, 60, false), NO_LONG, 5);
            due(x, "too cheap", x.bracket(0, 20000101, 4999, 60, false), NO_LONG, 5);
            for (int far : FAR) {
                due(x, "PRICE " + far, x.bracket(0, 20000101, far, 0, true), NO_LONG, 2);
                due(x, far + " times", x.bracket(0, 20000101, 9000, far, true), NO_LONG, 2);
            }
        });
    }

    private static void narrows() {
        edge("27", "How often it must be narrowed till HIGH - LOW is 0.000001 at most;", () -> {
            BondCalendars x = of(YEAR);
            for (int price : new int[] {5000, 7777, 9000, 10000, 12500}) {
                int n = x.narrows(0, 20000101, price);
                due("trouble()", x.trouble(), 0);
                dueTrue("narrow by then", n >= 1 && n <= 60 && width(x, price, n) <= 0.000001);
                dueTrue("not before", n >= 1 && n <= 60 && width(x, price, n - 1) > 0.000001);
            }
            // By halves alone: 1.2 / 2^21 is 0.00000057, 1.2 / 2^20 is 0.0000011.
            due("by halves", of(TIMELESS).narrows(0, 20000130, 10000), 21);
        });
        edge("27", "-2, if not 60 times at most.", SettleEdgesTest::neverMoreThanSixty);
        edge("27", "NONE: 1; 2; 5 (likewise).", () -> {
            BondCalendars x = of(YEAR);
            due(x, "1 ahead of 2", x.narrows(1, 20000101, 0), -1, 1);
            due(x, "PRICE 0", x.narrows(0, 20000101, 0), -1, 2);
            due(x, "PRICE 100,000", x.narrows(0, 20000101, 100000), -1, 2);
            due(x, "2 ahead of 5", x.narrows(0, 20010101, 0), -1, 2);
            due(x, "no SETTLE", x.narrows(0, 20010101, 9000), -1, 5);
            due(x, "too dear", x.narrows(0, 20000101, 12501), -1, 5);
            due(x, "too cheap", x.narrows(0, 20000101, 4999), -1, 5);
            for (int far : FAR) {
                due(x, "PRICE " + far, x.narrows(0, 20000101, far), -1, 2);
            }
        });
    }

    /** Every other time halves THE BRACKET, so 42 times are always enough: -2 never comes up. */
    private static void neverMoreThanSixty() {
        String[] bonds = {";bond 2000 per 1 euro mature 20500101 issue 20000101", ";bond 0 per 4 euro mature 20200101 issue 20000101",
            ";bond 2000 per 4 money mature 20200101 issue 20000101", ";bond 1 per 1 actual mature 20791231 issue 20000101"};
        for (String bond : bonds) {
            for (int price = 1; price <= 99999; price = price * 3 / 2 + 1) {
                BondCalendars x = of(DESK + bond);
                int n = x.narrows(0, 20000101, price);
                dueTrue(n + " times for " + price + bond, n <= 42 && (n > 0 || x.trouble() == 5));
                if (n > 0) {
                    dueTrue("narrow by then", width(x, price, n) <= 0.000001 && width(x, price, n - 1) > 0.000001);
                }
            }
        }
    }

    private static double width(BondCalendars x, int price, int n) {
        return valueOf(x.bracket(0, 20000101, price, n, true)) - valueOf(x.bracket(0, 20000101, price, n, false));
    }

    private static void pointsAt() {
        edge("28", "The greatest z (-2,000 .. 10,000) at which CLEAN is PRICE / 100.0 at least; Integer.MIN_VALUE if at none.", () -> {
            BondCalendars x = of(YEAR);
            due(x, "125: the least z", x.pointsAt(0, 20000101, 12500), -2000, 0);
            due(x, "125.01: none", x.pointsAt(0, 20000101, 12501), NO_INT, 0);
            due(x, "999.99: none", x.pointsAt(0, 20000101, 99999), NO_INT, 0);
            due(x, "100: by being equal", x.pointsAt(0, 20000101, 10000), 0, 0);
            due(x, "100.01", x.pointsAt(0, 20000101, 10001), -1, 0);
            due(x, "99.99", x.pointsAt(0, 20000101, 9999), 1, 0);
            due(x, "80: by being equal", x.pointsAt(0, 20000101, 8000), 2500, 0);
            due(x, "50: the greatest z", x.pointsAt(0, 20000101, 5000), 10000, 0);
            due(x, "50.01", x.pointsAt(0, 20000101, 5001), 9996, 0);
            due(x, "49.99: all of them", x.pointsAt(0, 20000101, 4999), 10000, 0);
            due(x, "0.01: all of them", x.pointsAt(0, 20000101, 1), 10000, 0);
            // CLEAN, not DIRTY: 106 / 1 - 3 at 0.
            BondCalendars half = of(DESK + ";bond 600 per 1 euro mature 20010101 issue 20000101");
            due(half, "103 when 3 are accrued", half.pointsAt(0, 20000701, 10300), 0, 0);
            // THE BRACKET needn't HOLD for it.
            due(of(TIMELESS), "at all of them", of(TIMELESS).pointsAt(0, 20000130, 9999), 10000, 0);
        });
        edge("28", "Integer.MIN_VALUE: 1; 2; 5 (trouble() tells).", () -> {
            BondCalendars x = of(YEAR);
            due(x, "1 ahead of 2", x.pointsAt(1, 20000101, 0), NO_INT, 1);
            due(x, "PRICE 0", x.pointsAt(0, 20000101, 0), NO_INT, 2);
            due(x, "PRICE 100,000", x.pointsAt(0, 20000101, 100000), NO_INT, 2);
            due(x, "2 ahead of 5", x.pointsAt(0, 20010101, 0), NO_INT, 2);
            due(x, "no SETTLE", x.pointsAt(0, 20010101, 9000), NO_INT, 5);
            due(x, "at none, not refused", x.pointsAt(0, 20000101, 99999), NO_INT, 0);
            for (int far : FAR) {
                due(x, "PRICE " + far, x.pointsAt(0, 20000101, far), NO_INT, 2);
            }
        });
    }
}
