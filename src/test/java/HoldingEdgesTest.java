import java.time.LocalDate;

/** Term IV, holdings and cash, deals, days that go by, sentence by sentence; promises 33 to 41. */
public final class HoldingEdgesTest extends Edges {
    /** COUPONS 2.85, 3, 1; EX 20000628, 20001227, 20010226; PAY 20000703 (END is a Saturday), 20010101, 20010301. */
    private static final String BOND = ";bond 600 per 2 euro mature 20010301 last 20010101 issue 20000110 ex 3";
    private static final String AHEAD = "desk from 20000109 cash 0" + BOND;
    private static final String TEXT = "desk from 20000110 cash 0" + BOND;
    /** One payment of 100, a year of 360 days on: at the yield y it is worth 100 / (1 + y). */
    private static final String YEAR = ";bond 0 per 1 euro mature 20010101 issue 20000101";

    public static void main(String[] args) {
        holdingTerms();
        dealTerm();
        dayTerm();
        exTerm();
        payTerm();
        lastTerm();
        nobodyTerm();
        noDesk();
        nowAndCash();
        holding();
        worth();
        deal();
        go();
        income();
        keep();
        back();
        finish();
    }

    private static void goTo(BondCalendars x, int date) {
        for (int days = x.days(x.now(), date); days > 0; days -= 4000) {
            x.go(Math.min(days, 4000));
        }
        due("NOW", x.now(), date);
    }

    // ---- Term IV

    private static void holdingTerms() {
        edge("IV", "HOLDINGS of each bond (0 .. 9,999, each of 100),", () -> {
            BondCalendars x = of(TEXT + BOND);
            due("none at first", x.holding(0), 0);
            due(x, "fewer than none", x.deal(0, -1, 1), NO_LONG, 3);
            due("the most", x.deal(0, 9999, 1), 9999);
            due("held", x.holding(0), 9999);
            due(x, "one more", x.deal(0, 1, 1), NO_LONG, 3);
            due("of the other none", x.holding(1), 0);
            due("the most of the other, too", x.deal(1, 9999, 1), 9999);
            due("none again", x.deal(0, -9999, 1), -9999);
            due("held", x.holding(0), 0);
            due("of the other still", x.holding(1), 9999);
            // Each of 100: that comes back at the end.
            BondCalendars one = of("desk from 20000101 cash 0" + YEAR);
            one.deal(0, 1, 1);
            due("100 for one", one.go(366), 10000);
        });
        edge("IV", "CASH (in hundredths, may be below 0), NOW.", () -> {
            String four = "desk from 20000101 cash 0" + YEAR + YEAR + YEAR + YEAR;
            BondCalendars x = of(four);
            due("deal", x.deal(0, 1, 1), 1);
            due("a hundredth below 0", x.cash(), -1);
            x = of(four);
            for (int b = 0; b < 4; b++) {
                x.deal(b, 9999, 99999);
            }
            due("far below 0", x.cash(), -4L * 9999 * 99999);
            for (int i = 0; i < 8; i++) {
                x.deal(0, -9999, 99999);
                x.deal(0, 9999, 1);
            }
            due("far above", x.cash(), 4L * 9999 * 99999 - 8L * 9999);
            due("NOW", x.now(), 20000101);
        });
    }

    private static void dealTerm() {
        edge("IV", "A DEAL of n (more, or fewer): n times PRICE, and the lower WHOLE of n times 100 times ACCRUED of NOW, go from CASH.", () -> {
            BondCalendars x = of(TEXT);
            due("nothing accrued", x.deal(0, 100, 9000), 900000);
            due("CASH", x.cash(), -900000);
            x.go(1);
            // 1 and 2 by 3 for each.
            due("one", x.deal(0, 1, 9000), 9001);
            due("two", x.deal(0, 2, 9000), 18003);
            due("three", x.deal(0, 3, 9000), 27005);
            due("one fewer", x.deal(0, -1, 9000), -9002);
            due("two fewer", x.deal(0, -2, 9000), -18004);
            due("three fewer", x.deal(0, -3, 9000), -27005);
            due("CASH", x.cash(), -900000 - 9001 - 18003 - 27005 + 9002 + 18004 + 27005);
            goTo(x, 20000630);
            // EX: 1 and 2 by 3 below 0 for each.
            due("one, EX", x.deal(0, 1, 9000), 8998);
            due("three, EX", x.deal(0, 3, 9000), 26995);
            due("one fewer, EX", x.deal(0, -1, 9000), -8999);
            due("three fewer, EX", x.deal(0, -3, 9000), -26995);
            // All of them at the dearest, with as much accrued as there may be.
            BondCalendars most = of("desk from 20021231 cash 0;bond 2000 per 1 euro mature 20030101 issue 20000101 first 20030101");
            due("the most", most.deal(0, 9999, 99999), 9999L * 99999 + 9999L * 100 * 20 * 1079 / 360);
            due("CASH then", most.cash(), -9999L * 99999 - 9999L * 100 * 20 * 1079 / 360);
        });
    }

    private static void dayTerm() {
        edge("IV", "A DAY GOES BY: NOW is the next DATE; bond by bond:", () -> {
            int[][] nexts = {{20000228, 20000229}, {20000229, 20000301}, {20010228, 20010301}, {20001231, 20010101},
                {20000430, 20000501}, {19800101, 19800102}, {20791230, 20791231}};
            for (int[] next : nexts) {
                BondCalendars x = of("desk from " + next[0] + " cash 0");
                due("go(1)", x.go(1), 0);
                due("NOW", x.now(), next[1]);
            }
            everyDay();
            // Two bonds, each with its own: 0.75 and 0.75 hundredths are none and none.
            String small = ";bond 1 per 4 euro mature 20000403 issue 20000103";
            BondCalendars x = of("desk from 20000103 cash 0" + small + small);
            x.deal(0, 3, 1);
            x.deal(1, 3, 1);
            due("bond by bond", x.go(91), 0 + 3 * 10000 + 0 + 3 * 10000);
            BondCalendars y = of("desk from 20000103 cash 0" + small + BOND.replace("20000110", "20000103"));
            y.deal(0, 1, 1);
            y.deal(1, 2, 1);
            due("one of them ends", y.go(91), 10000);
            due("it is held no more", y.holding(0), 0);
            due("the other is", y.holding(1), 2);
        });
    }

    /** All days from the earliest DATE to the latest, one by one. */
    private static void everyDay() {
        LocalDate date = LocalDate.of(1980, 1, 1);
        while (date.getYear() < 2080) {
            BondCalendars x = of("desk from " + number(date.getYear(), date.getMonthValue(), date.getDayOfMonth()) + " cash 0");
            for (int i = 0; i < 240 && date.getYear() < 2080; i++) {
                due("NOW", x.now(), date.getYear() * 10000 + date.getMonthValue() * 100 + date.getDayOfMonth());
                x.go(1);
                date = date.plusDays(1);
            }
        }
    }

    private static void exTerm() {
        edge("IV", "where NOW is EX of a PERIOD, who holds then is ENTITLED to its COUPON (as many as are held);", () -> {
            BondCalendars x = of(TEXT);
            x.deal(0, 10, 9000);
            goTo(x, 20000627);
            due("the day ahead of EX", x.period(0, 0, 6), 0);
            x.deal(0, 1, 9000);
            goTo(x, 20000628);
            due("on EX", x.period(0, 0, 6), 11);
            x.deal(0, 5, 9000);
            due("bought on EX: too late", x.period(0, 0, 6), 11);
            x.deal(0, -16, 9000);
            due("sold on EX: ENTITLED all the same", x.period(0, 0, 6), 11);
            due("as is paid", x.go(5), 11 * 285);
            due("nobody to the next", x.period(0, 1, 6), 0);
            // EX and PAY on one day: ENTITLED first.
            BondCalendars day = of("desk from 20000103 cash 0;bond 400 per 4 euro mature 20001003 issue 20000103");
            day.deal(0, 7, 9000);
            due("EX and PAY on one day", day.go(91), 7 * 100);
            due("ENTITLED", day.period(0, 0, 6), 7);
            // EX on a Saturday without ex, PAY on Monday.
            BondCalendars weekend = of("desk from 20000630 cash 0;bond 400 per 4 euro mature 20001001 issue 20000401");
            weekend.go(1);
            weekend.deal(0, 7, 9000);
            due("bought on END, which is EX", weekend.go(2), 0);
            weekend = of("desk from 20000630 cash 0;bond 400 per 4 euro mature 20001001 issue 20000401");
            weekend.deal(0, 7, 9000);
            due("bought the day ahead", weekend.go(3), 700);
            // EX of two PERIODS on one day: last is a Saturday, mature a Sunday.
            BondCalendars two = of("desk from 20000601 cash 0;bond 360 per 4 euro mature"
                    + " 20000702 last 20000701 issue 20000401 ex 1");
            two.deal(0, 8, 9000);
            goTo(two, 20000630);
            due("ENTITLED to the first", two.period(0, 0, 6), 8);
            due("ENTITLED to the second", two.period(0, 1, 6), 8);
            // EX ahead of issue: nobody can hold it then.
            BondCalendars soon = of("desk from 20000601 cash 0;bond 360 per 4 euro mature 20000705 issue 20000703 ex 10");
            goTo(soon, 20000703);
            soon.deal(0, 8, 9000);
            due("100 alone", soon.go(2), 8 * 10000);
            due("nobody is ENTITLED", soon.period(0, 0, 6), 0);
        });
    }

    private static void payTerm() {
        edge("IV", "where it is PAY of one, the lower WHOLE of ENTITLED times 100 times its COUPON comes to CASH (PERIOD by PERIOD);", () -> {
            BondCalendars x = of(TEXT);
            x.deal(0, 10, 9000);
            goTo(x, 20000702);
            due("CASH the day ahead of PAY", x.cash(), -90000);
            due("PAY", x.go(1), 2850);
            due("CASH then", x.cash(), -90000 + 2850);
            due("nothing the day behind", x.go(1), 0);
            // A quarter of a hundredth for each.
            int[][] wholes = {{1, 0}, {3, 0}, {4, 1}, {7, 1}, {8, 2}, {9999, 2499}};
            for (int[] whole : wholes) {
                BondCalendars small = of("desk from 20000103 cash 0;bond 1 per 4 euro mature 20000703 issue 20000103");
                small.deal(0, whole[0], 1);
                due("a quarter of " + whole[0], small.go(91), whole[1]);
            }
            // Two PERIODS on one PAY: 22.75 and 91 by 360 are 22 and 0, together they'd be 23.
            BondCalendars two = of("desk from 20000601 cash 0;bond 1 per 4 euro mature 20000702 last 20000701 issue 20000401");
            two.deal(0, 91, 1);
            due("PERIOD by PERIOD", two.go(32), 22 + 0 + 910000);
            // A COUPON of 0; a RATE of 0.
            BondCalendars zero = of("desk from 20000101 cash 0;bond 0 per 4 euro mature 20010101 issue 20000101");
            zero.deal(0, 9999, 1);
            due("RATE 0", zero.go(365), 0);
            due("ENTITLED all the same", zero.period(0, 0, 6), 9999);
            // The greatest COUPON: three years at 20 by 100.
            BondCalendars most = of("desk from 20021231 cash 0;bond 2000 per 1 euro mature 20030101 issue 20000101 first 20030101");
            most.deal(0, 9999, 1);
            due("the most", most.go(1), 9999L * 6000 + 9999L * 10000);
        });
    }

    private static void lastTerm() {
        edge("IV", "if that is the last one, 10,000 for each held, too: none is held any more.", () -> {
            BondCalendars x = of(TEXT);
            x.deal(0, 10, 9000);
            goTo(x, 20010228);
            due("held till then", x.holding(0), 10);
            due("the last", x.go(1), 10 * 100 + 10 * 10000);
            due("held no more", x.holding(0), 0);
            due("nothing comes behind", x.go(365), 0);
            // Bought when EX: 100 each alone. Sold when EX: the COUPON alone.
            x = of("desk from 20010226 cash 0" + BOND);
            x.deal(0, 10, 9000);
            due("bought when EX", x.go(3), 100000);
            x = of("desk from 20010225 cash 0" + BOND);
            x.deal(0, 10, 9000);
            x.go(1);
            x.deal(0, -4, 9000);
            due("six of ten sold when EX", x.income(3), 10 * 100 + 6 * 10000);
            x.deal(0, -6, 9000);
            due("all sold when EX", x.go(3), 10 * 100);
            // mature is a Saturday: held, but dealt no more, till Monday.
            x = of("desk from 20000630 cash 0;bond 0 per 1 euro mature 20000701 issue 19990701");
            x.deal(0, 10, 9000);
            due("mature", x.go(1), 0);
            due("held", x.holding(0), 10);
            due(x, "dealt no more", x.deal(0, -1, 9000), NO_LONG, 5);
            due("Sunday", x.go(1), 0);
            due("Monday", x.go(1), 100000);
            due("held no more", x.holding(0), 0);
            // PAY behind the latest DATE never comes.
            x = of("desk from 20791230 cash 0;bond 0 per 1 euro mature 20791231 issue 20781231");
            x.deal(0, 10, 9000);
            due("the latest DATE", x.go(1), 0);
            due("held for ever", x.holding(0), 10);
        });
    }

    private static void nobodyTerm() {
        edge("IV", "(At first nobody is ENTITLED; who is stays so behind PAY.)", () -> {
            BondCalendars x = of(TEXT);
            for (int k = 0; k < 3; k++) {
                due("at first", x.period(0, k, 6), 0);
            }
            x.deal(0, 10, 9000);
            due("bought", x.period(0, 0, 6), 0);
            goTo(x, 20000703);
            due("on PAY", x.period(0, 0, 6), 10);
            x.deal(0, 5, 9000);
            goTo(x, 20001227);
            due("behind PAY", x.period(0, 0, 6), 10);
            due("the next", x.period(0, 1, 6), 15);
            goTo(x, 20791231);
            due("to the end of all", x.period(0, 0, 6), 10);
            due("the next", x.period(0, 1, 6), 15);
            due("the last", x.period(0, 2, 6), 15);
            // A DESK that begins on EX, or behind it: no DAY went by to it.
            x = of("desk from 20000628 cash 0" + BOND);
            x.deal(0, 10, 9000);
            due("begun on EX", x.period(0, 0, 6), 0);
            due("nothing is paid", x.go(5), 0);
            due("nobody ENTITLED", x.period(0, 0, 6), 0);
            x = of("desk from 20000627 cash 0" + BOND);
            x.deal(0, 10, 9000);
            due("begun the day ahead", x.go(6), 2850);
            // A new DESK: nobody again.
            tell(x, TEXT);
            due("a new DESK", x.period(0, 0, 6), 0);
        });
    }

    // ---- promises 33 to 41

    private static void noDesk() {
        edge("face", "holdings: 1 (no DESK; no such bond).", () -> {
            BondCalendars x = new BondCalendars();
            due(x, "now", x.now(), -1, 1);
            due(x, "cash", x.cash(), NO_LONG, 1);
            due(x, "holding", x.holding(0), -1, 1);
            due(x, "worth", x.worth(0), NO_LONG, 1);
            due(x, "deal", x.deal(0, 1, 1), NO_LONG, 1);
            due(x, "go", x.go(1), NO_LONG, 1);
            due(x, "income", x.income(1), NO_LONG, 1);
            due(x, "keep", x.keep() ? 1 : 0, 0, 1);
            due(x, "back", x.back() ? 1 : 0, 0, 1);
            tell(x, "desk");
            due(x, "now, behind a FAULT", x.now(), -1, 1);
            due(x, "keep, behind a FAULT", x.keep() ? 1 : 0, 0, 1);
            x = of(TEXT);
            due(x, "holding(1)", x.holding(1), -1, 1);
            due(x, "deal(1)", x.deal(1, 1, 1), NO_LONG, 1);
            x = of("desk from 20000101 cash 5");
            due(x, "no bond", x.holding(0), -1, 1);
            due(x, "no bond to deal in", x.deal(0, 1, 1), NO_LONG, 1);
            due(x, "now", x.now(), 20000101, 0);
            due(x, "cash", x.cash(), 5, 0);
            due(x, "go", x.go(1), 0, 0);
            due(x, "keep", x.keep() ? 1 : 0, 1, 0);
        });
    }

    private static void nowAndCash() {
        edge("33", "NOW.", () -> {
            BondCalendars x = of("desk from 19800101 cash 0");
            due(x, "the earliest", x.now(), 19800101, 0);
            x.go(1);
            due(x, "a day on", x.now(), 19800102, 0);
            x = of("desk from 20791231 cash 0");
            due(x, "the latest", x.now(), 20791231, 0);
        });
        edge("33", "NONE: 1.", () -> {
            BondCalendars x = new BondCalendars();
            due(x, "no DESK", x.now(), -1, 1);
        });
        edge("34", "CASH.", () -> {
            BondCalendars x = of("desk from 20000110 cash 99999999" + BOND);
            due(x, "the most told", x.cash(), 99999999, 0);
            x.deal(0, 1, 99999);
            due(x, "less what went", x.cash(), 99900000, 0);
            x = of("desk from 20000110 cash 0" + BOND);
            due(x, "none", x.cash(), 0, 0);
            x.deal(0, 9999, 99999);
            due(x, "below 0", x.cash(), -9999L * 99999, 0);
        });
        edge("34", "Long.MIN_VALUE: 1.", () -> {
            BondCalendars x = new BondCalendars();
            due(x, "no DESK", x.cash(), NO_LONG, 1);
        });
    }

    private static void holding() {
        edge("35", "How many of a bond are held.", () -> {
            BondCalendars x = of(TEXT + BOND + BOND + BOND);
            for (int b = 0; b < 4; b++) {
                due(x, "none of " + b, x.holding(b), 0, 0);
                x.deal(b, 9996 + b, 1);
                due(x, "of " + b, x.holding(b), 9996 + b, 0);
            }
            due("of 0 still", x.holding(0), 9996);
        });
        edge("35", "NONE: 1.", () -> {
            BondCalendars x = of(TEXT);
            due(x, "holding(1)", x.holding(1), -1, 1);
            due(x, "holding(-1)", x.holding(-1), -1, 1);
            due(x, "holding(4)", x.holding(4), -1, 1);
            for (int far : FAR) {
                due(x, "holding(" + far + ")", x.holding(far), -1, 1);
            }
            x = new BondCalendars();
            due(x, "no DESK", x.holding(0), -1, 1);
        });
    }

    private static void worth() {
        edge("36", "CASH / 100.0, + bond by bond, for those of which NOW is a SETTLE, how many are held * DIRTY at z points (-2,000 .. 10,000): bits.", () -> {
            BondCalendars x = of("desk from 20000101 cash 1" + YEAR + YEAR + BOND);
            dueDouble("CASH alone", x.worth(0), 0.01);
            x.deal(0, 3, 1);
            x.deal(1, 5, 1);
            double cash = -7 / 100.0;
            for (int z : new int[] {-2000, -1999, 0, 7, 9999, 10000}) {
                double dirty = 0.0 + 100.0 / (1.0 + z / 10000.0 * 1.0);
                dueDouble("at " + z, x.worth(z), cash + 3 * dirty + 5 * dirty);
                due("trouble()", x.trouble(), 0);
            }
            goTo(x, 20001231);
            double near = 0.0 + 100.0 / (1.0 + 0.05 * (1.0 / 360.0));
            dueDouble("the day ahead of mature", x.worth(500), x.cash() / 100.0 + 3 * near + 5 * near);
            BondCalendars late = of("desk from 20000630 cash 0;bond 0 per 1 euro mature 20000701 issue 19990701");
            late.deal(0, 10, 9000);
            dueDouble("held ahead of mature", late.worth(0), -900.0 + 10 * 100.0);
            late.go(1);
            dueDouble("held at mature: no SETTLE", late.worth(0), -900.0);
            late.go(2);
            dueDouble("paid", late.worth(0), 100.0);
            BondCalendars early = of(AHEAD);
            dueDouble("ahead of issue", early.worth(-2000), 0.0);
            early.go(1);
            early.deal(0, 2, 10000);
            dueDouble("at issue", early.worth(0), -200.0 + 2 * (2.85 + 3.0 + 101.0));
            goTo(early, 20000628);
            dueDouble("EX", early.worth(0), -200.0 + 2 * (0.0 + 3.0 + 101.0));
        });
        edge("36", "Long.MIN_VALUE: 1; 2.", () -> {
            BondCalendars x = new BondCalendars();
            due(x, "no DESK", x.worth(0), NO_LONG, 1);
            due(x, "1 ahead of 2", x.worth(10001), NO_LONG, 1);
            x = of(TEXT);
            due(x, "-2,001", x.worth(-2001), NO_LONG, 2);
            due(x, "10,001", x.worth(10001), NO_LONG, 2);
            for (int far : FAR) {
                due(x, "worth(" + far + ")", x.worth(far), NO_LONG, 2);
            }
        });
    }

    private static void deal() {
        edge("37", "A DEAL of n (-9,999 .. 9,999, not 0) at a PRICE (1 .. 99,999): what goes from CASH (below 0: comes).", () -> {
            BondCalendars x = of(TEXT);
            due(x, "9,999 at 1", x.deal(0, 9999, 1), 9999, 0);
            due(x, "-9,999 at 99,999", x.deal(0, -9999, 99999), -9999L * 99999, 0);
            due("CASH", x.cash(), 9999L * 99999 - 9999);
            due(x, "1 at 99,999", x.deal(0, 1, 99999), 99999, 0);
            due(x, "-1 at 1", x.deal(0, -1, 1), -1, 0);
        });
        edge("37", "Long.MIN_VALUE: 1; 2; 5 (NOW is no SETTLE); 3 (fewer than 0, more than 9,999 then).", () -> {
            BondCalendars x = of(AHEAD);
            due(x, "1 ahead of 2", x.deal(1, 0, 0), NO_LONG, 1);
            due(x, "1 for -1", x.deal(-1, 1, 1), NO_LONG, 1);
            due(x, "0", x.deal(0, 0, 1), NO_LONG, 2);
            due(x, "10,000", x.deal(0, 10000, 1), NO_LONG, 2);
            due(x, "-10,000: 2 ahead of 5 and 3", x.deal(0, -10000, 1), NO_LONG, 2);
            due(x, "PRICE 0: 2 ahead of 5", x.deal(0, 1, 0), NO_LONG, 2);
            due(x, "PRICE 100,000: 2 ahead of 5", x.deal(0, 1, 100000), NO_LONG, 2);
            due(x, "PRICE -1", x.deal(0, 1, -1), NO_LONG, 2);
            due(x, "the day ahead of issue", x.deal(0, 1, 1), NO_LONG, 5);
            due(x, "5 ahead of 3", x.deal(0, -1, 1), NO_LONG, 5);
            for (int far : FAR) {
                due(x, "bond " + far, x.deal(far, 1, 1), NO_LONG, 1);
                due(x, "n " + far, x.deal(0, far, 1), NO_LONG, 2);
                due(x, "PRICE " + far, x.deal(0, 1, far), NO_LONG, 2);
            }
            x.go(1);
            due(x, "at issue fewer than 0", x.deal(0, -1, 1), NO_LONG, 3);
            due(x, "at issue", x.deal(0, 1, 1), 1, 0);
            due(x, "fewer than 0", x.deal(0, -2, 1), NO_LONG, 3);
            due(x, "more than 9,999", x.deal(0, 9999, 1), NO_LONG, 3);
            due(x, "just 9,999", x.deal(0, 9998, 1), 9998, 0);
            due(x, "one more", x.deal(0, 1, 1), NO_LONG, 3);
            due("refused ones leave HOLDINGS", x.holding(0), 9999);
            due("and CASH", x.cash(), -9999);
            goTo(x, 20010228);
            // EX: 5 hundredths below 0 for each.
            due(x, "the day ahead of mature", x.deal(0, -9999, 1), -9999 + 9999 * 5, 0);
            x.go(1);
            due(x, "at mature", x.deal(0, 1, 1), NO_LONG, 5);
            due(x, "at mature: 2 ahead of 5", x.deal(0, 0, 1), NO_LONG, 2);
        });
    }

    private static void go() {
        edge("38", "n DAYS GO BY (1 .. 4,000): what comes to CASH by them.", () -> {
            BondCalendars x = of(TEXT);
            x.deal(0, 10, 9000);
            due(x, "1", x.go(1), 0, 0);
            due("NOW", x.now(), 20000111);
            due(x, "4,000", x.go(4000), 2850 + 3000 + 1000 + 100000, 0);
            LocalDate then = LocalDate.of(2000, 1, 11).plusDays(4000);
            due("NOW", x.now(), then.getYear() * 10000 + then.getMonthValue() * 100 + then.getDayOfMonth());
            due("CASH", x.cash(), 106850 - 90000);
            // Day by day it is all the same.
            BondCalendars slow = of(TEXT);
            slow.deal(0, 10, 9000);
            long comes = 0;
            for (int i = 0; i < 450; i++) {
                comes += slow.go(1);
            }
            due("day by day", comes, 106850);
            due("CASH", slow.cash(), 106850 - 90000);
        });
        edge("38", "Long.MIN_VALUE: 1; 2 (NOW would be no DATE, too).", () -> {
            BondCalendars none = new BondCalendars();
            due(none, "1 ahead of 2", none.go(0), NO_LONG, 1);
            BondCalendars x = of(TEXT);
            x.deal(0, 10, 9000);
            due(x, "0", x.go(0), NO_LONG, 2);
            due(x, "-1", x.go(-1), NO_LONG, 2);
            due(x, "4,001", x.go(4001), NO_LONG, 2);
            for (int far : FAR) {
                due(x, "go(" + far + ")", x.go(far), NO_LONG, 2);
            }
            due("NOW stays", x.now(), 20000110);
            due("CASH stays", x.cash(), -90000);
            x = of("desk from 20791230 cash 0");
            due(x, "two days: no DATE", x.go(2), NO_LONG, 2);
            due(x, "4,000 days: no DATE", x.go(4000), NO_LONG, 2);
            due("NOW stays", x.now(), 20791230);
            due(x, "one day", x.go(1), 0, 0);
            due(x, "and no more", x.go(1), NO_LONG, 2);
            due("NOW stays", x.now(), 20791231);
            LocalDate from = LocalDate.of(2079, 12, 31).minusDays(4000);
            int number = from.getYear() * 10000 + from.getMonthValue() * 100 + from.getDayOfMonth();
            due(of("desk from " + number + " cash 0"), "4,000 to the latest", of("desk from " + number + " cash 0").go(4000), 0, 0);
            from = from.plusDays(1);
            number = from.getYear() * 10000 + from.getMonthValue() * 100 + from.getDayOfMonth();
            x = of("desk from " + number + " cash 0");
            due(x, "4,000, a day too many", x.go(4000), NO_LONG, 2);
            due(x, "3,999", x.go(3999), 0, 0);
        });
    }

    private static void income() {
        edge("39", "What would come by that, and all stays.", () -> {
            BondCalendars x = of(TEXT);
            x.deal(0, 10, 9000);
            goTo(x, 20000629);
            x.keep();
            long[][] dues = {{1, 0}, {3, 0}, {4, 2850}, {185, 2850}, {186, 5850}, {244, 5850}, {245, 106850}, {4000, 106850}};
            for (long[] each : dues) {
                due(x, "income(" + each[0] + ")", x.income((int) each[0]), each[1], 0);
                due("NOW", x.now(), 20000629);
                due("CASH", x.cash(), -90000);
                due("held", x.holding(0), 10);
                due("ENTITLED", x.period(0, 0, 6), 10);
                due("ENTITLED to the next", x.period(0, 1, 6), 0);
                due("kept", x.size(4), 1);
            }
            due("and then it comes", x.go(245), 106850);
            due("nothing more", x.income(4000), 0);
            dueTrue("back", x.back());
            due("as kept", x.now(), 20000629);
        });
        edge("39", "Long.MIN_VALUE: likewise.", () -> {
            BondCalendars none = new BondCalendars();
            due(none, "no DESK", none.income(1), NO_LONG, 1);
            due(none, "1 ahead of 2", none.income(0), NO_LONG, 1);
            BondCalendars x = of(TEXT);
            due(x, "0", x.income(0), NO_LONG, 2);
            due(x, "-1", x.income(-1), NO_LONG, 2);
            due(x, "4,001", x.income(4001), NO_LONG, 2);
            for (int far : FAR) {
                due(x, "income(" + far + ")", x.income(far), NO_LONG, 2);
            }
            x = of("desk from 20791230 cash 0");
            due(x, "no DATE", x.income(2), NO_LONG, 2);
            due(x, "the latest", x.income(1), 0, 0);
            due(x, "the latest, as all stays", x.income(1), 0, 0);
        });
    }

    private static void keep() {
        edge("40", "HOLDINGS, ENTITLED, CASH, NOW are kept (what was kept before is no more): true;", () -> {
            BondCalendars x = of(TEXT);
            x.deal(0, 10, 9000);
            due(x, "keep", x.keep() ? 1 : 0, 1, 0);
            goTo(x, 20000628);
            x.deal(0, 5, 9000);
            long cash = x.cash();
            due(x, "keep anew", x.keep() ? 1 : 0, 1, 0);
            due("something is kept", x.size(4), 1);
            goTo(x, 20010301);
            dueTrue("back", x.back());
            due("NOW", x.now(), 20000628);
            due("CASH", x.cash(), cash);
            due("HOLDINGS", x.holding(0), 15);
            due("ENTITLED", x.period(0, 0, 6), 10);
            due("ENTITLED to the next", x.period(0, 1, 6), 0);
            dueTrue("keep again, which changes nothing", x.keep());
            due("NOW", x.now(), 20000628);
            due("CASH", x.cash(), cash);
            due("HOLDINGS", x.holding(0), 15);
            due("ENTITLED", x.period(0, 0, 6), 10);
        });
        edge("40", "false: 1.", () -> {
            BondCalendars x = new BondCalendars();
            due(x, "no DESK", x.keep() ? 1 : 0, 0, 1);
            due("nothing is kept", x.size(4), 0);
        });
    }

    private static void back() {
        edge("41", "They are as they were kept (that stays kept): true;", () -> {
            BondCalendars x = of(TEXT);
            x.deal(0, 10, 9000);
            goTo(x, 20000627);
            x.keep();
            for (int i = 0; i < 3; i++) {
                due("days go by", x.go(6), 2850);
                due("ENTITLED", x.period(0, 0, 6), 10);
                due(x, "back", x.back() ? 1 : 0, 1, 0);
                due("it stays kept", x.size(4), 1);
                due("NOW", x.now(), 20000627);
                due("CASH", x.cash(), -90000);
                due("HOLDINGS", x.holding(0), 10);
                due("nobody ENTITLED", x.period(0, 0, 6), 0);
            }
            due(x, "back at once", x.back() ? 1 : 0, 1, 0);
            due("NOW", x.now(), 20000627);
            goTo(x, 20010301);
            due("none held", x.holding(0), 0);
            dueTrue("back from the end", x.back());
            due("held again", x.holding(0), 10);
            due("and paid again", x.go(4000), 106850);
        });
        edge("41", "false: 1 (nothing is kept).", () -> {
            BondCalendars x = new BondCalendars();
            due(x, "no DESK", x.back() ? 1 : 0, 0, 1);
            x = of(TEXT);
            x.go(5);
            due(x, "nothing is kept", x.back() ? 1 : 0, 0, 1);
            due("all stays", x.now(), 20000115);
            x.keep();
            tell(x, TEXT);
            due(x, "a new DESK", x.back() ? 1 : 0, 0, 1);
            x.keep();
            tell(x, "desk");
            due(x, "a FAULT leaves it", x.back() ? 1 : 0, 1, 0);
        });
    }
}
