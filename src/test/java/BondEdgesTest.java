import java.time.LocalDate;

/** Term II, the calendar of a bond, sentence by sentence; promises 12 to 18, and the LINE of Term IV. */
public final class BondEdgesTest extends Edges {
    private static final String DESK = "desk from 20000101 cash 0";

    public static void main(String[] args) {
        gridTerms();
        couponTerms();
        actualTerm();
        couponAndDays();
        lineTerm();
        noSuchOne();
        bond();
        grid();
        period();
        fraction();
        coupon();
        line();
        sign();
        finish();
    }

    private static BondCalendars bond(String text) {
        return of(DESK + ";bond " + text);
    }

    private static void gridIs(BondCalendars x, int from, int... dates) {
        for (int i = 0; i < dates.length; i++) {
            due("grid(0, " + (from + i) + ")", x.grid(0, from + i), dates[i]);
        }
    }

    private static void endsAre(BondCalendars x, int... dates) {
        due("how many PERIODS", x.bond(0, 8), dates.length - 1);
        for (int k = 0; k < dates.length - 1; k++) {
            due("START of " + k, x.period(0, k, 0), dates[k]);
            due("END of " + k, x.period(0, k, 1), dates[k + 1]);
        }
    }

    private static void fractionIs(BondCalendars x, int k, long upper, long lower) {
        dueRatio("fraction " + k, x.fraction(0, k, false), x.fraction(0, k, true), upper, lower);
    }

    private static void couponIs(BondCalendars x, int k, long upper, long lower) {
        dueRatio("coupon " + k, x.coupon(0, k, false), x.coupon(0, k, true), upper, lower);
    }

    // ---- Term II

    private static void gridTerms() {
        edge("II", "THE CALENDAR of a bond. A STEP: 12 by F MONTHS.", () -> {
            gridIs(bond("1 per 1 euro mature 20050115 issue 20000101"), -2, 20030115, 20040115, 20050115, 20060115);
            gridIs(bond("1 per 2 euro mature 20050115 issue 20000101"), -2, 20040115, 20040715, 20050115, 20050715);
            gridIs(bond("1 per 4 euro mature 20050115 issue 20000101"), -2, 20040715, 20041015, 20050115, 20050415);
        });
        edge("II", "ANCHOR: last, or mature without.", () -> {
            due("mature", bond("1 per 1 euro mature 20050115 issue 20000101").bond(0, 4), 20050115);
            BondCalendars x = bond("1 per 1 euro mature 20050115 last 20041231 issue 20000101");
            due("last", x.bond(0, 4), 20041231);
            due("mature", x.bond(0, 3), 20050115);
            due("GRID of last", x.grid(0, 0), 20041231);
        });
        edge("II", "GRID DATES: the ANCHOR, and those k STEPS earlier or later than it (each reckoned from the ANCHOR at once);", () -> {
            // By way of February a 31st would be lost.
            gridIs(bond("1 per 2 euro mature 20040831 issue 20000101"), -4,
                    20020831, 20030228, 20030831, 20040229, 20040831, 20050228, 20050831, 20060228);
            gridIs(bond("1 per 4 euro mature 20050531 issue 20000101"), -5,
                    20040229, 20040531, 20040831, 20041130, 20050228, 20050531, 20050831, 20051130, 20060228);
            gridIs(bond("1 per 1 euro mature 20040229 issue 20000101"), -5,
                    19990228, 20000229, 20010228, 20020228, 20030228, 20040229, 20050228, 20060228, 20070228);
            everyAnchor();
        });
        edge("II", "by eom, if the ANCHOR is the last day of its month, each is the last day of its month.", () -> {
            gridIs(bond("1 per 4 euro eom mature 20050228 issue 20000101"), -4,
                    20040229, 20040531, 20040831, 20041130, 20050228, 20050531, 20050831, 20051130);
            gridIs(bond("1 per 2 euro eom mature 20050630 issue 20000101"), -2, 20040630, 20041231, 20050630, 20051231);
            gridIs(bond("1 per 2 euro mature 20050630 issue 20000101"), -2, 20040630, 20041230, 20050630, 20051230);
            // Not the last day: eom does nothing.
            gridIs(bond("1 per 2 euro eom mature 20040228 issue 20000101"), -2, 20030228, 20030828, 20040228, 20040828);
            gridIs(bond("1 per 2 euro eom mature 20050730 issue 20000101"), -2, 20040730, 20050130, 20050730, 20060130);
            gridIs(bond("1 per 2 euro eom mature 20050830 issue 20000101"), -1, 20050228, 20050830, 20060228, 20060830);
            // The ANCHOR counts, not mature.
            gridIs(bond("1 per 2 euro eom mature 20050731 last 20050630 issue 20000101"), -1, 20041231, 20050630, 20051231);
            gridIs(bond("1 per 2 euro eom mature 20050731 last 20050629 issue 20000101"), -1, 20041229, 20050629, 20051229);
        });
    }

    /** From each day of some years, as far as the GRID goes, by the calendar of the Java library. */
    private static void everyAnchor() {
        for (int year : new int[] {1980, 1990, 2079}) {
            for (LocalDate anchor = LocalDate.of(year, 1, 2); anchor.getYear() == year; anchor = anchor.plusDays(1)) {
                for (int f = 1; f <= 4; f *= 2) {
                    gridFrom(anchor, f);
                }
            }
        }
    }

    private static void gridFrom(LocalDate anchor, int f) {
        BondCalendars x = bond("1 per " + f + " euro mature " + number(anchor) + " issue " + number(anchor.minusDays(1)));
        for (int k = -90; k <= 3; k++) {
            due("grid " + k + " from " + anchor, x.grid(0, k), number(anchor.plusMonths(k * 12 / f)));
        }
    }

    private static int number(LocalDate date) {
        return date.getYear() * 10000 + date.getMonthValue() * 100 + date.getDayOfMonth();
    }

    private static void couponTerms() {
        edge("II", "COUPONS fall on GRID DATES later than issue,", () -> {
            endsAre(bond("1 per 2 euro mature 20050115 issue 20040115"), 20040115, 20040715, 20050115);
            endsAre(bond("1 per 2 euro mature 20050115 issue 20040114"), 20040114, 20040115, 20040715, 20050115);
            endsAre(bond("1 per 2 euro mature 20050115 issue 20040116"), 20040116, 20040715, 20050115);
            endsAre(bond("1 per 2 euro mature 20050115 issue 20050114"), 20050114, 20050115);
        });
        edge("II", "no earlier than first (if told), up to the ANCHOR, and on mature.", () -> {
            endsAre(bond("1 per 2 euro mature 20050115 issue 20030120 first 20030715"), 20030120, 20030715, 20040115, 20040715, 20050115);
            endsAre(bond("1 per 2 euro mature 20050115 issue 20030120 first 20040115"), 20030120, 20040115, 20040715, 20050115);
            endsAre(bond("1 per 2 euro mature 20050115 issue 20030120 first 20040715"), 20030120, 20040715, 20050115);
            endsAre(bond("1 per 2 euro mature 20050115 issue 20040120 first 20050115"), 20040120, 20050115);
            endsAre(bond("1 per 2 euro mature 20050116 last 20050115 issue 20040715"), 20040715, 20050115, 20050116);
            // GRID DATES between last and mature are no COUPONS.
            endsAre(bond("1 per 2 euro mature 20060715 last 20050115 issue 20040715"), 20040715, 20050115, 20060715);
            endsAre(bond("1 per 2 euro mature 20060715 last 20050115 issue 20040714 first 20050115"), 20040714, 20050115, 20060715);
        });
        edge("II", "PERIODS, numbered from 0: from issue, or the COUPON before (START), to a COUPON (END).", () -> {
            endsAre(bond("1 per 4 euro mature 20050331 issue 20040501"), 20040501, 20040630, 20040930, 20041231, 20050331);
            BondCalendars x = bond("1 per 4 euro mature 20050102 last 20050101 issue 19850101");
            due("the most PERIODS", x.bond(0, 8), 81);
            for (int k = 0; k < 81; k++) {
                due("START of " + k, x.period(0, k, 0), k == 0 ? 19850101 : x.period(0, k - 1, 1));
            }
            due("END of the last", x.period(0, 80, 1), 20050102);
            due("END of the last but one", x.period(0, 79, 1), 20050101);
            due("none behind", x.period(0, 81, 0), -1);
        });
    }

    private static void actualTerm() {
        edge("II", "actual: for each two GRID DATES next to one another: DAYS from d to e that lie between them, by F times the DAYS between them, all together.", () -> {
            BondCalendars x = bond("1 per 2 actual mature 20010101 issue 20000101");
            fractionIs(x, 0, 1, 2);
            fractionIs(x, 1, 1, 2);
            // Short: 31 of twice 182 days (20000101 to 20000701).
            fractionIs(bond("1 per 2 actual mature 20010101 issue 20000531"), 0, 31, 364);
            // Long: 1 of twice 184 days (from 19990701), and a half.
            fractionIs(bond("1 per 2 actual mature 20010101 issue 19991231 first 20000701"), 0, 185, 368);
            // The longest first: three STEPS.
            fractionIs(bond("1 per 2 actual mature 20010101 issue 19990701 first 20010101"), 0, 3, 2);
            fractionIs(bond("1 per 1 actual mature 20010101 issue 19980101 first 20010101"), 0, 3, 1);
            fractionIs(bond("1 per 4 actual mature 20010101 issue 20000401 first 20010101"), 0, 3, 4);
            // Three STEPS less a day: 181 of 184 less one there.
            fractionIs(bond("1 per 2 actual mature 20010101 issue 19990702 first 20010101"), 0, 551, 368);
            // Last: a day of twice 181 (20010101 to 20010701); three STEPS; a day less.
            fractionIs(bond("1 per 2 actual mature 20010102 last 20010101 issue 20000701"), 1, 1, 362);
            fractionIs(bond("1 per 2 actual mature 20020701 last 20010101 issue 20000701"), 1, 3, 2);
            fractionIs(bond("1 per 2 actual mature 20020630 last 20010101 issue 20000701"), 1, 271, 181);
            // A leap year: 60 of its 366 days, then a whole year.
            fractionIs(bond("1 per 1 actual mature 20020101 issue 20001102 first 20020101"), 0, 71, 61);
            // Behind the latest DATE and ahead of the earliest the GRID goes on.
            fractionIs(bond("1 per 1 actual mature 20791231 last 20791201 issue 20781201"), 1, 5, 61);
            fractionIs(bond("1 per 1 actual mature 19801001 issue 19800101"), 0, 137, 183);
        });
    }

    private static void couponAndDays() {
        edge("II", "COUPON of a PERIOD: RATE by 100, times its FRACTION (for 100).", () -> {
            couponIs(bond("0 per 2 euro mature 20010101 issue 20000101"), 0, 0, 1);
            couponIs(bond("1 per 2 euro mature 20010101 issue 20000101"), 0, 1, 200);
            couponIs(bond("2000 per 2 euro mature 20010101 issue 20000101"), 0, 10, 1);
            couponIs(bond("2000 per 1 actual mature 20010101 issue 19980101 first 20010101"), 0, 60, 1);
            couponIs(bond("365 per 1 fixed mature 20010101 issue 20000101"), 0, 183, 50);
            // From a 30th to a 31st no time goes by.
            couponIs(bond("2000 per 2 thirty mature 20000131 issue 20000130"), 0, 0, 1);
        });
        edge("II", "EX of a PERIOD: ex BUSINESS DAYS back from its END.", () -> {
            String friday = "1 per 1 euro mature 20000107 issue 19990107";
            due("ex 0", bond(friday + " ex 0").period(0, 0, 3), 20000107);
            due("without ex", bond(friday).period(0, 0, 3), 20000107);
            due("ex 1", bond(friday + " ex 1").period(0, 0, 3), 20000106);
            due("ex 5", bond(friday + " ex 5").period(0, 0, 3), 19991231);
            due("ex 10", bond(friday + " ex 10").period(0, 0, 3), 19991224);
            String sunday = "1 per 1 euro mature 20000109 issue 19990109";
            due("ex 0 from a Sunday", bond(sunday + " ex 0").period(0, 0, 3), 20000109);
            due("ex 1 from a Sunday", bond(sunday + " ex 1").period(0, 0, 3), 20000107);
            due("ex 1 over a HOLIDAY told ahead", of(DESK + ";holiday 20000107;bond " + sunday + " ex 1").period(0, 0, 3), 20000106);
            due("ex 1 over a HOLIDAY told behind", of(DESK + ";bond " + sunday + " ex 1;holiday 20000107").period(0, 0, 3), 20000106);
            due("ex 0 on a HOLIDAY", of(DESK + ";bond " + friday + ";holiday 20000107").period(0, 0, 3), 20000107);
            // Ahead of START, of issue, of the earliest DATE.
            due("ahead of issue", bond("1 per 1 euro mature 20000107 issue 20000106 ex 5").period(0, 0, 3), 19991231);
            due("ahead of START", bond("1 per 1 euro mature 20000107 last 20000106 issue 19990106 ex 5").period(0, 1, 3), 19991231);
            due("ahead of 1980", bond("1 per 1 euro mature 19800102 issue 19800101 ex 10").period(0, 0, 3), 19791219);
        });
        edge("II", "PAY: its END, or the first BUSINESS DAY later, if it is none.", () -> {
            int[] pays = {20000107, 20000110, 20000110, 20000110};
            for (int i = 0; i < pays.length; i++) {
                BondCalendars x = bond("1 per 1 euro mature " + (20000107 + i) + " issue 19990107 ex 5");
                due("PAY of END " + (20000107 + i), x.period(0, x.bond(0, 8) - 1, 4), pays[i]);
            }
            BondCalendars x = of(DESK + ";holiday 20000110;bond 1 per 1 euro mature 20000107 issue 19990107;holiday 20000107");
            due("over HOLIDAYS", x.period(0, 0, 4), 20000111);
            StringBuilder row = new StringBuilder(DESK + ";bond 1 per 1 euro mature 20000103 issue 19990103");
            for (int day : new int[] {3, 4, 5, 6, 7, 10, 11, 12, 13, 14}) {
                row.append(";holiday ").append(20000100 + day);
            }
            due("over ten HOLIDAYS", of(row.toString()).period(0, 0, 4), 20000117);
            due("behind the latest DATE", bond("1 per 1 euro mature 20791231 issue 20781231").period(0, 0, 4), 20800101);
        });
    }

    private static void lineTerm() {
        edge("IV", "A LINE of a PERIOD, as a text: year, -, month, -, day of its END (of 4, 2, 2 digits), a blank, its COUPON in lowest terms, the upper WHOLE, /, the lower.", () -> {
            lineIs(bond("500 per 2 euro mature 20050101 issue 20040701"), 0, "2005-01-01 5/2");
            lineIs(bond("0 per 2 euro mature 20051231 issue 20050701"), 0, "2005-12-31 0/1");
            lineIs(bond("2000 per 1 euro mature 20791009 issue 20781009"), 0, "2079-10-09 20/1");
            lineIs(bond("1 per 1 fixed mature 19800102 issue 19800101"), 0, "1980-01-02 1/36500");
            lineIs(bond("900 per 1 euro mature 20051110 issue 20041110"), 0, "2005-11-10 9/1");
            lineIs(bond("1000 per 1 euro mature 20051110 issue 20041110"), 0, "2005-11-10 10/1");
            lineIs(bond("1980 per 2 euro mature 20050909 issue 20050309"), 0, "2005-09-09 99/10");
            lineIs(bond("99 per 1 euro mature 20051110 issue 20041110"), 0, "2005-11-10 99/100");
            // 90 of four times 91 days, and a half.
            lineIs(bond("1999 per 4 actual mature 20010101 issue 20000402 first 20010101"), 0, "2001-01-01 33983/2275");
            // The longest: 1095 by 365 times 19.99, a day less than that.
            lineIs(bond("1999 per 1 fixed mature 20040101 issue 20010102 first 20040101"), 0, "2004-01-01 1093453/18250");
        });
    }

    private static void lineIs(BondCalendars x, int k, String text) {
        due("line of " + text, x.line(0, k), text.length());
        for (int i = 0; i < text.length(); i++) {
            due("sign " + i + " of " + text, x.sign(0, k, i), text.charAt(i));
        }
        due("no sign behind " + text, x.sign(0, k, text.length()), -1);
    }

    // ---- promises 12 to 18

    private static final String TWO = DESK + ";bond 500 per 2 euro eom mature 20050331 last 20041231 issue 20031115 first 20040630 ex 7"
            + ";bond 250 per 1 money mature 20070515 issue 20060515";

    private static void noSuchOne() {
        edge("face", "bonds, periods: 1 without such a one, or another what.", () -> {
            BondCalendars none = new BondCalendars();
            BondCalendars two = of(TWO);
            BondCalendars empty = of(DESK);
            for (BondCalendars x : new BondCalendars[] {none, two, empty}) {
                for (int b : new int[] {-1, 2, 4, Integer.MIN_VALUE, Integer.MAX_VALUE}) {
                    due(x, "bond", x.bond(b, 0), -1, 1);
                    due(x, "grid", x.grid(b, 0), -1, 1);
                    due(x, "period", x.period(b, 0, 0), -1, 1);
                    due(x, "fraction", x.fraction(b, 0, false), -1, 1);
                    due(x, "coupon", x.coupon(b, 0, true), -1, 1);
                    due(x, "line", x.line(b, 0), -1, 1);
                    due(x, "sign", x.sign(b, 0, 0), -1, 1);
                }
            }
            due(empty, "bond 0 of none", empty.bond(0, 0), -1, 1);
            due(two, "bond(1, 9)", two.bond(1, 9), -1, 1);
            due(two, "period(1, 0, 7)", two.period(1, 0, 7), -1, 1);
            due(two, "period(1, 1, 0)", two.period(1, 1, 0), -1, 1);
        });
    }

    private static void bond() {
        edge("12", "Of a bond 0 RATE, 1 F, 2 RULE (0 .. 4), 3 mature, 4 ANCHOR, 5 issue, 6 1 with eom, 7 ex, 8 how many PERIODS.", () -> {
            BondCalendars x = of(TWO);
            int[] first = {500, 2, 1, 20050331, 20041231, 20031115, 1, 7, 3};
            int[] second = {250, 1, 2, 20070515, 20070515, 20060515, 0, 0, 1};
            for (int what = 0; what <= 8; what++) {
                due(x, "bond(0, " + what + ")", x.bond(0, what), first[what], 0);
                due(x, "bond(1, " + what + ")", x.bond(1, what), second[what], 0);
            }
            due("eom is told, though the ANCHOR is no last day",
                    bond("1 per 1 euro eom mature 20050330 issue 20040101").bond(0, 6), 1);
            due("RULE thirty", bond("1 per 1 thirty mature 20050330 issue 20040101").bond(0, 2), 0);
            due("RULE actual", bond("1 per 1 actual mature 20050330 issue 20040101").bond(0, 2), 4);
            due("the fewest PERIODS", bond("1 per 1 actual mature 20050330 issue 20050329").bond(0, 8), 1);
            due("the earliest DATES", bond("1 per 1 actual mature 19800102 issue 19800101").bond(0, 5), 19800101);
            due("the latest DATE", bond("1 per 1 actual mature 20791231 issue 20791230").bond(0, 3), 20791231);
        });
        edge("12", "NONE: 1.", () -> {
            BondCalendars x = of(TWO);
            due(x, "bond(2, 0)", x.bond(2, 0), -1, 1);
            due(x, "bond(-1, 0)", x.bond(-1, 0), -1, 1);
            due(x, "bond(0, 9)", x.bond(0, 9), -1, 1);
            due(x, "bond(0, -1)", x.bond(0, -1), -1, 1);
            for (int far : FAR) {
                due(x, "bond(" + far + ", 0)", x.bond(far, 0), -1, 1);
                due(x, "bond(0, " + far + ")", x.bond(0, far), -1, 1);
            }
        });
    }

    private static void grid() {
        edge("13", "The GRID DATE k STEPS from the ANCHOR (-90 .. 3).", () -> {
            BondCalendars x = of(TWO);
            due(x, "0", x.grid(0, 0), 20041231, 0);
            due(x, "3", x.grid(0, 3), 20060630, 0);
            due(x, "-90", x.grid(0, -90), 19591231, 0);
            due(x, "-89", x.grid(0, -89), 19600630, 0);
            due(x, "-90 of years", x.grid(1, -90), 19170515, 0);
            due(x, "3 of years", x.grid(1, 3), 20100515, 0);
            due("the earliest of all", bond("1 per 1 euro mature 19800102 issue 19800101").grid(0, -90), 18900102);
            due("the latest of all", bond("1 per 1 euro mature 20791231 issue 20790101").grid(0, 3), 20821231);
            due("ahead of issue", x.grid(0, -4), 20021231);
        });
        edge("13", "NONE: 1; 2.", () -> {
            BondCalendars x = of(TWO);
            due(x, "grid(0, 4)", x.grid(0, 4), -1, 2);
            due(x, "grid(0, -91)", x.grid(0, -91), -1, 2);
            due(x, "grid(2, 0)", x.grid(2, 0), -1, 1);
            due(x, "grid(2, 4): 1 ahead of 2", x.grid(2, 4), -1, 1);
            due(x, "grid(-1, -91): 1 ahead of 2", x.grid(-1, -91), -1, 1);
            for (int far : FAR) {
                due(x, "grid(0, " + far + ")", x.grid(0, far), -1, 2);
                due(x, "grid(" + far + ", 0)", x.grid(far, 0), -1, 1);
            }
        });
    }

    private static void period() {
        edge("14", "Of a PERIOD 0 START, 1 END, 2 DAYS, 3 EX, 4 PAY, 5 1 if START and END are GRID DATES next to one another, 6 how many are ENTITLED.", () -> {
            BondCalendars x = of(TWO);
            int[][] first = {{20031115, 20040630, 228, 20040621, 20040630, 0, 0},
                {20040630, 20041231, 184, 20041222, 20041231, 1, 0}, {20041231, 20050331, 90, 20050322, 20050331, 0, 0}};
            for (int k = 0; k < 3; k++) {
                for (int what = 0; what <= 6; what++) {
                    due(x, "period(0, " + k + ", " + what + ")", x.period(0, k, what), first[k][what], 0);
                }
            }
            due("issue a GRID DATE", x.period(1, 0, 5), 1);
            due("one day of it", bond("1 per 1 euro mature 20050330 issue 20050329").period(0, 0, 2), 1);
            // Two STEPS are not next to one another; neither is a day less or more.
            due("two STEPS", bond("1 per 2 euro mature 20050330 issue 20040330 first 20050330").period(0, 0, 5), 0);
            due("a STEP", bond("1 per 2 euro mature 20050330 issue 20040930").period(0, 0, 5), 1);
            due("a day more", bond("1 per 2 euro mature 20050330 issue 20040929 first 20050330").period(0, 0, 5), 0);
            due("a day less", bond("1 per 2 euro mature 20050330 issue 20041001").period(0, 0, 5), 0);
            BondCalendars last = bond("1 per 2 euro mature 20050930 last 20050330 issue 20040930");
            due("a STEP behind last", last.period(0, 1, 5), 1);
            last = bond("1 per 2 euro mature 20060330 last 20050330 issue 20040930");
            due("two STEPS behind last", last.period(0, 1, 5), 0);
            last = bond("1 per 2 euro eom mature 20050930 last 20050331 issue 20040930");
            due("a STEP behind last by eom", last.period(0, 1, 5), 1);
            last = bond("1 per 2 euro mature 20050929 last 20050330 issue 20040930");
            due("a day less behind last", last.period(0, 1, 5), 0);
            ex();
        });
        edge("14", "NONE: 1.", () -> {
            BondCalendars x = of(TWO);
            due(x, "period(0, 3, 0)", x.period(0, 3, 0), -1, 1);
            due(x, "period(0, -1, 0)", x.period(0, -1, 0), -1, 1);
            due(x, "period(1, 1, 0)", x.period(1, 1, 0), -1, 1);
            due(x, "period(2, 0, 0)", x.period(2, 0, 0), -1, 1);
            due(x, "period(0, 0, 7)", x.period(0, 0, 7), -1, 1);
            due(x, "period(0, 0, -1)", x.period(0, 0, -1), -1, 1);
            for (int far : FAR) {
                due(x, "period(" + far + ", 0, 0)", x.period(far, 0, 0), -1, 1);
                due(x, "period(0, " + far + ", 0)", x.period(0, far, 0), -1, 1);
                due(x, "period(0, 0, " + far + ")", x.period(0, 0, far), -1, 1);
            }
        });
    }

    /** ENTITLED of one PERIOD alone, of one bond alone. */
    private static void ex() {
        BondCalendars x = of("desk from 20040601 cash 0" + TWO.substring(DESK.length()));
        x.deal(0, 12, 10000);
        x.go(20);
        due("NOW is EX", x.now(), 20040621);
        due("ENTITLED", x.period(0, 0, 6), 12);
        due("not to the next", x.period(0, 1, 6), 0);
        due("not to another bond's", x.period(1, 0, 6), 0);
        String most = ";bond 1 per 4 euro mature 20050103 last 20050101 issue 19850101";
        x = of("desk from 20041231 cash 0" + most + most + most + most);
        for (int b = 0; b < 4; b++) {
            x.deal(b, 11 + b, 1);
        }
        x.go(3);
        for (int b = 0; b < 4; b++) {
            due("ENTITLED to the first of 81 of bond " + b, x.period(b, 0, 6), 0);
            due("ENTITLED to the last but one of 81 of bond " + b, x.period(b, 79, 6), 11 + b);
            due("ENTITLED to the last of 81 of bond " + b, x.period(b, 80, 6), 11 + b);
        }
    }

    private static void fraction() {
        edge("15", "Its FRACTION.", () -> {
            BondCalendars x = of(TWO);
            due(x, "upper", x.fraction(0, 0, false), 5, 0);
            due(x, "lower", x.fraction(0, 0, true), 8, 0);
            due(x, "upper by money", x.fraction(1, 0, false), 73, 0);
            due(x, "lower by money", x.fraction(1, 0, true), 72, 0);
            fractionIs(bond("1 per 1 thirty mature 20000131 issue 20000130"), 0, 0, 1);
        });
        edge("15", "-1: 1.", () -> {
            BondCalendars x = of(TWO);
            for (int i = 0; i < 2; i++) {
                boolean lower = i == 1;
                due(x, "fraction(0, 3)", x.fraction(0, 3, lower), -1, 1);
                due(x, "fraction(0, -1)", x.fraction(0, -1, lower), -1, 1);
                due(x, "fraction(1, 1)", x.fraction(1, 1, lower), -1, 1);
                due(x, "fraction(2, 0)", x.fraction(2, 0, lower), -1, 1);
                due(x, "fraction(-1, 0)", x.fraction(-1, 0, lower), -1, 1);
                for (int far : FAR) {
                    due(x, "fraction(0, " + far + ")", x.fraction(0, far, lower), -1, 1);
                    due(x, "fraction(" + far + ", 0)", x.fraction(far, 0, lower), -1, 1);
                }
            }
        });
    }

    private static void coupon() {
        edge("16", "Its COUPON.", () -> {
            BondCalendars x = of(TWO);
            due(x, "upper", x.coupon(0, 0, false), 25, 0);
            due(x, "lower", x.coupon(0, 0, true), 8, 0);
            due(x, "upper by money", x.coupon(1, 0, false), 365, 0);
            due(x, "lower by money", x.coupon(1, 0, true), 144, 0);
            couponIs(bond("2000 per 1 thirty mature 20000131 issue 20000130"), 0, 0, 1);
        });
        edge("16", "-1: 1.", () -> {
            BondCalendars x = of(TWO);
            for (int i = 0; i < 2; i++) {
                boolean lower = i == 1;
                due(x, "coupon(0, 3)", x.coupon(0, 3, lower), -1, 1);
                due(x, "coupon(0, -1)", x.coupon(0, -1, lower), -1, 1);
                due(x, "coupon(1, 1)", x.coupon(1, 1, lower), -1, 1);
                due(x, "coupon(2, 0)", x.coupon(2, 0, lower), -1, 1);
                due(x, "coupon(-1, 0)", x.coupon(-1, 0, lower), -1, 1);
                for (int far : FAR) {
                    due(x, "coupon(0, " + far + ")", x.coupon(0, far, lower), -1, 1);
                    due(x, "coupon(" + far + ", 0)", x.coupon(far, 0, lower), -1, 1);
                }
            }
        });
    }

    private static void line() {
        edge("17", "How many signs its LINE has.", () -> {
            BondCalendars x = of(TWO);
            due(x, "2004-06-30 25/8", x.line(0, 0), 15, 0);
            due(x, "2004-12-31 5/2", x.line(0, 1), 14, 0);
            due(x, "2007-05-15 365/144", x.line(1, 0), 18, 0);
            due("2000-01-31 0/1", bond("9 per 1 thirty mature 20000131 issue 20000130").line(0, 0), 14);
        });
        edge("17", "NONE: 1.", () -> {
            BondCalendars x = of(TWO);
            due(x, "line(0, 3)", x.line(0, 3), -1, 1);
            due(x, "line(0, -1)", x.line(0, -1), -1, 1);
            due(x, "line(1, 1)", x.line(1, 1), -1, 1);
            due(x, "line(2, 0)", x.line(2, 0), -1, 1);
            due(x, "line(-1, 0)", x.line(-1, 0), -1, 1);
            for (int far : FAR) {
                due(x, "line(0, " + far + ")", x.line(0, far), -1, 1);
                due(x, "line(" + far + ", 0)", x.line(far, 0), -1, 1);
            }
        });
    }

    private static void sign() {
        edge("18", "The i-th of them.", () -> {
            BondCalendars x = of(TWO);
            String text = "2007-05-15 365/144";
            for (int i = 0; i < text.length(); i++) {
                due(x, "sign " + i, x.sign(1, 0, i), text.charAt(i), 0);
            }
        });
        edge("18", "NONE: 1 (i, too).", () -> {
            BondCalendars x = of(TWO);
            due(x, "sign(1, 0, 18)", x.sign(1, 0, 18), -1, 1);
            due(x, "sign(1, 0, -1)", x.sign(1, 0, -1), -1, 1);
            due(x, "a shorter one behind a longer one", x.sign(0, 1, 14), -1, 1);
            due(x, "sign(0, 3, 0)", x.sign(0, 3, 0), -1, 1);
            due(x, "sign(0, -1, 0)", x.sign(0, -1, 0), -1, 1);
            due(x, "sign(1, 1, 0)", x.sign(1, 1, 0), -1, 1);
            due(x, "sign(2, 0, 0)", x.sign(2, 0, 0), -1, 1);
            due(x, "sign(-1, 0, 0)", x.sign(-1, 0, 0), -1, 1);
            for (int far : FAR) {
                due(x, "sign(1, 0, " + far + ")", x.sign(1, 0, far), -1, 1);
                due(x, "sign(1, " + far + ", 0)", x.sign(1, far, 0), -1, 1);
                due(x, "sign(" + far + ", 0, 0)", x.sign(far, 0, 0), -1, 1);
            }
        });
    }
}
