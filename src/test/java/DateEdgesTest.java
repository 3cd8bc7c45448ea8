import java.time.LocalDate;
import java.time.YearMonth;
import java.time.temporal.ChronoUnit;

/** DATES, BUSINESS DAYS and FRACTIONS that need no bond, sentence by sentence; promises 6 to 11. */
public final class DateEdgesTest extends Edges {
    private static final String DESK = "desk from 20000101 cash 0";
    private static final LocalDate EARLIEST = LocalDate.of(1980, 1, 1);
    private static final LocalDate LATEST = LocalDate.of(2079, 12, 31);
    private static final int CALLS = 500;

    /** Gives an object that has calls left. */
    private static final class Supply {
        private BondCalendars x = new BondCalendars();
        private int used = 0;

        BondCalendars next() {
            used++;
            if (used > CALLS) {
                x = new BondCalendars();
                used = 1;
            }
            return x;
        }
    }

    public static void main(String[] args) {
        terms();
        businessTerms();
        fractionTerms();
        days();
        weekday();
        months();
        business();
        businessFrom();
        counted();
        finish();
    }

    private static int number(LocalDate date) {
        return date.getYear() * 10000 + date.getMonthValue() * 100 + date.getDayOfMonth();
    }

    // ---- Terms I and II

    private static void terms() {
        edge("I", "DATES are numbers: year times 10,000, month times 100, day, from 19800101 to 20791231, of the calendar in use (a leap year: by 4, not by 100 but by 400).", () -> {
            Supply supply = new Supply();
            for (int year = 1979; year <= 2080; year++) {
                for (int month = 0; month <= 13; month++) {
                    boolean inBounds = year >= 1980 && year <= 2079 && month >= 1 && month <= 12;
                    int length = inBounds ? YearMonth.of(year, month).lengthOfMonth() : 0;
                    for (int day : new int[] {0, 1, 28, 29, 30, 31, 32, 99}) {
                        int d = year * 10000 + month * 100 + day;
                        dueTrue("a DATE or none: " + d, supply.next().weekday(d) >= 0 == (day >= 1 && day <= length));
                    }
                }
            }
            BondCalendars x = new BondCalendars();
            for (int d : new int[] {0, 1, -1, -20000101, 2000, 200001, 99999999, 100000101, 20009901}) {
                due(x, "weekday(" + d + ")", x.weekday(d), -1, 2);
            }
            // By 100: 1900 and 2100 lie outside, but months and GRID DATES get near them.
            x = of(DESK + ";bond 1 per 1 euro eom mature 20000229 issue 19990101");
            due("29 days in 1980", x.grid(0, -20), 19800229);
            due("29 days in 1912", x.grid(0, -88), 19120229);
            x = of(DESK + ";bond 1 per 1 euro eom mature 19880229 issue 19870101");
            due("28 days in 1900", x.grid(0, -88), 19000228);
        });
        edge("I", "DAYS from one to another: how many later it is.", () -> {
            Supply supply = new Supply();
            for (LocalDate date = EARLIEST; !date.isAfter(LATEST); date = date.plusDays(1)) {
                int later = (int) ChronoUnit.DAYS.between(EARLIEST, date);
                due("days to " + date, supply.next().days(19800101, number(date)), later);
            }
        });
        edge("I", "n MONTHS from a DATE (n may be below 0): that many months later, of the same day, of the month's last, if it has fewer (these may lie outside those bounds).", () -> {
            Supply supply = new Supply();
            int[] froms = {19800101, 19800131, 19800229, 20000229, 20001231, 20010228, 20010331, 20010430, 20791130, 20791231};
            for (int from : froms) {
                LocalDate date = LocalDate.of(from / 10000, from / 100 % 100, from % 100);
                for (int n = -120; n <= 120; n++) {
                    due("months(" + from + ", " + n + ", false)", supply.next().months(from, n, false), number(date.plusMonths(n)));
                }
            }
        });
    }

    private static void businessTerms() {
        edge("II", "BUSINESS DAYS are no Saturdays, Sundays, HOLIDAYS (19800101 was a Tuesday).", () -> {
            Supply supply = new Supply();
            for (LocalDate date = EARLIEST; !date.isAfter(LATEST); date = date.plusDays(1)) {
                int business = date.getDayOfWeek().getValue() <= 5 ? 1 : 0;
                due("business of " + date, supply.next().business(number(date)), business);
            }
            // A HOLIDAY on a Friday, one on a Saturday, the first and the last DATE.
            BondCalendars x = of(DESK + ";holiday 20000107;holiday 20000108;holiday 19800101;holiday 20791229");
            due("Thursday", x.business(20000106), 1);
            due("Friday, a HOLIDAY", x.business(20000107), 0);
            due("Saturday, a HOLIDAY", x.business(20000108), 0);
            due("Sunday", x.business(20000109), 0);
            due("Monday", x.business(20000110), 1);
            due("the first DATE, a HOLIDAY", x.business(19800101), 0);
            due("a HOLIDAY near the last DATE", x.business(20791229), 0);
            due("the day ahead of it", x.business(20791228), 1);
        });
        edge("II", "n BUSINESS DAYS from a DATE: going on from it (or back, if n is below 0) till that many were met (not itself; n 0: itself).", () -> {
            BondCalendars x = new BondCalendars();
            Supply supply = new Supply();
            for (LocalDate date = EARLIEST; !date.isAfter(LATEST); date = date.plusDays(1)) {
                int weekday = date.getDayOfWeek().getValue();
                int later = weekday == 5 ? 3 : weekday == 6 ? 2 : 1;
                due("0 from " + date, supply.next().businessFrom(number(date), 0), number(date));
                due("1 from " + date, supply.next().businessFrom(number(date), 1), number(date.plusDays(later)));
            }
            due("0 from a Saturday", x.businessFrom(20000101, 0), 20000101);
            due("0 from a Monday", x.businessFrom(20000103, 0), 20000103);
            due("1 from a Saturday", x.businessFrom(20000101, 1), 20000103);
            due("1 from a Sunday", x.businessFrom(20000102, 1), 20000103);
            due("1 from a Monday", x.businessFrom(20000103, 1), 20000104);
            due("1 from a Friday", x.businessFrom(20000107, 1), 20000110);
            due("-1 from a Monday", x.businessFrom(20000110, -1), 20000107);
            due("-1 from a Sunday", x.businessFrom(20000109, -1), 20000107);
            due("-1 from a Saturday", x.businessFrom(20000108, -1), 20000107);
            due("5 from a Monday", x.businessFrom(20000103, 5), 20000110);
            due("-5 from a Monday", x.businessFrom(20000110, -5), 20000103);
            // Ten HOLIDAYS in a row of BUSINESS DAYS: over all of them at one go.
            StringBuilder row = new StringBuilder(DESK);
            for (int day : new int[] {3, 4, 5, 6, 7, 10, 11, 12, 13, 14}) {
                row.append(";holiday ").append(20000100 + day);
            }
            x = of(row.toString());
            due("1 over all", x.businessFrom(19991231, 1), 20000117);
            due("-1 over all", x.businessFrom(20000117, -1), 19991231);
            due("0 from one of them", x.businessFrom(20000105, 0), 20000105);
            due("1 from one of them", x.businessFrom(20000105, 1), 20000117);
            due("60 over all", x.businessFrom(19991231, 60), 20000407);
            due("-60 over all", x.businessFrom(20000407, -60), 19991231);
        });
    }

    private static void fractionTerms() {
        edge("II", "FRACTIONS of a year from d to e (e no earlier): money: DAYS by 360; fixed: DAYS by 365;", () -> {
            BondCalendars x = new BondCalendars();
            counts(x, 2, 20000101, 20000101, 0, 1);
            counts(x, 2, 20000101, 20000102, 1, 360);
            counts(x, 2, 20000101, 20001226, 1, 1);
            counts(x, 2, 20000101, 20010101, 61, 60);
            counts(x, 2, 19800101, 20791231, 9131, 90);
            counts(x, 3, 20000101, 20000101, 0, 1);
            counts(x, 3, 20000101, 20000102, 1, 365);
            counts(x, 3, 20010101, 20020101, 1, 1);
            counts(x, 3, 20000101, 20010101, 366, 365);
            counts(x, 3, 20000228, 20000301, 2, 365);
            counts(x, 3, 19800101, 20791231, 36524, 365);
        });
        edge("II", "thirty, euro: 360 times the years between, 30 times the months between, the days between, together, by 360,", () -> {
            for (int rule = 0; rule <= 1; rule++) {
                BondCalendars x = new BondCalendars();
                counts(x, rule, 20000101, 20000101, 0, 1);
                counts(x, rule, 20000101, 20000102, 1, 360);
                counts(x, rule, 20000101, 20010101, 1, 1);
                counts(x, rule, 20000131, 20000201, 1, 360);
                counts(x, rule, 20000228, 20000301, 1, 120);
                counts(x, rule, 20000229, 20000301, 1, 180);
                counts(x, rule, 20010228, 20010301, 1, 120);
                counts(x, rule, 20001231, 20010101, 1, 360);
                counts(x, rule, 20001130, 20010131, 1, 6);
                counts(x, rule, 20001215, 20010114, 29, 360);
                counts(x, rule, 19800101, 20791201, 1199, 12);
                counts(x, rule, 20000815, 20010415, 2, 3);
            }
        });
        edge("II", "where a day 31 of d counts as 30, and a day 31 of e as 30 (thirty: only if that of d is 30 or 31);", () -> {
            BondCalendars x = new BondCalendars();
            for (int first = 27; first <= 31; first++) {
                for (int second = 28; second <= 31; second++) {
                    int from = Math.min(first, 30);
                    int d = 20000100 + first;
                    int e = 20000300 + second;
                    countsDays(x, 0, d, e, 60 + (second == 31 && first >= 30 ? 30 : second) - from);
                    countsDays(x, 1, d, e, 60 + Math.min(second, 30) - from);
                }
            }
            counts(x, 0, 20000131, 20000131, 0, 1);
            counts(x, 1, 20000131, 20000131, 0, 1);
            counts(x, 0, 20000130, 20000131, 0, 1);
            counts(x, 1, 20000130, 20000131, 0, 1);
            counts(x, 0, 20000129, 20000131, 1, 180);
            counts(x, 1, 20000129, 20000131, 1, 360);
            counts(x, 0, 20000229, 20000331, 4, 45);
            counts(x, 1, 20000229, 20000331, 31, 360);
        });
    }

    private static void counts(BondCalendars x, int rule, int d, int e, long upper, long lower) {
        String what = "counted(" + rule + ", " + d + ", " + e + ")";
        dueRatio(what, x.counted(rule, d, e, false), x.counted(rule, d, e, true), upper, lower);
    }

    private static void countsDays(BondCalendars x, int rule, int d, int e, long days) {
        long common = 1;
        for (long by = 2; by <= 360; by++) {
            if (days % by == 0 && 360 % by == 0) {
                common = by;
            }
        }
        counts(x, rule, d, e, days / common, 360 / common);
    }

    // ---- promises 6 to 11

    private static void days() {
        edge("6", "DAYS from d to e, below 0 if e is earlier;", () -> {
            BondCalendars x = new BondCalendars();
            due(x, "the same", x.days(20000101, 20000101), 0, 0);
            due(x, "one later", x.days(19991231, 20000101), 1, 0);
            due(x, "one earlier", x.days(20000101, 19991231), -1, 0);
            due(x, "the first to the last", x.days(19800101, 20791231), 36524, 0);
            due(x, "the last to the first", x.days(20791231, 19800101), -36524, 0);
        });
        edge("6", "Integer.MIN_VALUE: 2 (no DATE).", () -> {
            BondCalendars x = new BondCalendars();
            for (int no : noDates()) {
                due(x, "days(" + no + ", 20000101)", x.days(no, 20000101), NO_INT, 2);
                due(x, "days(20000101, " + no + ")", x.days(20000101, no), NO_INT, 2);
                due(x, "days of " + no + " twice", x.days(no, no), NO_INT, 2);
            }
        });
    }

    private static int[] noDates() {
        int[] some = {0, -1, 19791231, 20800101, 20000230, 20010229, 20000100, 20001301, 20000001, 99999999};
        int[] all = java.util.Arrays.copyOf(some, some.length + FAR.length);
        System.arraycopy(FAR, 0, all, some.length, FAR.length);
        return all;
    }

    private static void weekday() {
        edge("7", "0 Monday .. 6 Sunday.", () -> {
            Supply supply = new Supply();
            for (LocalDate date = EARLIEST; !date.isAfter(LATEST); date = date.plusDays(1)) {
                due("weekday of " + date, supply.next().weekday(number(date)), date.getDayOfWeek().getValue() - 1);
            }
        });
        edge("7", "NONE: 2.", () -> {
            BondCalendars x = new BondCalendars();
            for (int no : noDates()) {
                due(x, "weekday(" + no + ")", x.weekday(no), -1, 2);
            }
            due(x, "weekday of a DATE", x.weekday(20000103), 0, 0);
        });
    }

    private static void months() {
        edge("8", "n MONTHS from d (-120 .. 120), as a number;", () -> {
            BondCalendars x = new BondCalendars();
            due(x, "120", x.months(20000131, 120, false), 20100131, 0);
            due(x, "-120", x.months(20000131, -120, false), 19900131, 0);
            due(x, "0", x.months(20000131, 0, false), 20000131, 0);
            due(x, "over New Year", x.months(20001231, 1, false), 20010131, 0);
            due(x, "back over New Year", x.months(20010131, -1, false), 20001231, 0);
            due(x, "outside, late", x.months(20791231, 120, false), 20891231, 0);
            due(x, "outside, early", x.months(19800101, -120, false), 19700101, 0);
            due(x, "of the month's last", x.months(20000531, -3, false), 20000229, 0);
            due(x, "of the month's last, no leap year", x.months(20010531, -3, false), 20010228, 0);
        });
        edge("8", "by eom, if d is the last day of its month, the last day of that month.", () -> {
            BondCalendars x = new BondCalendars();
            due("28 in February to 31", x.months(20010228, 1, true), 20010331);
            due("29 in February to 31", x.months(20000229, 1, true), 20000331);
            due("28 in a leap year is not the last", x.months(20000228, 1, true), 20000328);
            due("28 to 29", x.months(20010228, 36, true), 20040229);
            due("29 to 28", x.months(20000229, -12, true), 19990228);
            due("30 to 31", x.months(20000430, 1, true), 20000531);
            due("30 of 31 is not the last", x.months(20000530, 1, true), 20000630);
            due("30 of 31 to February", x.months(20000130, 1, true), 20000229);
            due("0 months", x.months(20000430, 0, true), 20000430);
            due("without eom", x.months(20000430, 1, false), 20000530);
            due("outside", x.months(20791130, 3, true), 20800229);
        });
        edge("8", "NONE: 2.", () -> {
            BondCalendars x = new BondCalendars();
            due(x, "121", x.months(20000131, 121, false), -1, 2);
            due(x, "-121", x.months(20000131, -121, true), -1, 2);
            for (int n : FAR) {
                due(x, "months(20000131, " + n + ")", x.months(20000131, n, true), -1, 2);
            }
            for (int no : noDates()) {
                due(x, "months(" + no + ", 1)", x.months(no, 1, false), -1, 2);
            }
        });
        edge("face", "dates (with a DESK or without).", () -> {
            for (BondCalendars x : new BondCalendars[] {new BondCalendars(), of(DESK + ";holiday 20000103")}) {
                boolean told = x.size(2) == 1;
                due(x, "days", x.days(20000101, 20000102), 1, 0);
                due(x, "weekday", x.weekday(20000101), 5, 0);
                due(x, "months", x.months(20000101, 1, false), 20000201, 0);
                due(x, "business", x.business(20000103), told ? 0 : 1, 0);
                due(x, "businessFrom", x.businessFrom(20000101, 1), told ? 20000104 : 20000103, 0);
                due(x, "counted", x.counted(2, 20000101, 20000102, true), 360, 0);
            }
        });
    }

    private static void business() {
        edge("9", "1 for a BUSINESS DAY, 0.", () -> {
            BondCalendars x = of(DESK + ";holiday 20000105");
            int[] due = {0, 0, 1, 1, 0, 1, 1, 0, 0, 1};
            for (int i = 0; i < due.length; i++) {
                due(x, "business of " + (20000101 + i), x.business(20000101 + i), due[i], 0);
            }
        });
        edge("9", "NONE: 2.", () -> {
            BondCalendars x = new BondCalendars();
            for (int no : noDates()) {
                due(x, "business(" + no + ")", x.business(no), -1, 2);
            }
        });
    }

    private static void businessFrom() {
        edge("10", "n BUSINESS DAYS from d (-60 .. 60), as a number.", () -> {
            BondCalendars x = new BondCalendars();
            due(x, "60", x.businessFrom(20000103, 60), 20000327, 0);
            due(x, "-60", x.businessFrom(20000327, -60), 20000103, 0);
            due(x, "60 from a Sunday", x.businessFrom(20000102, 60), 20000324, 0);
            due(x, "60 from the last DATE", x.businessFrom(20791231, 60), 20800322, 0);
            due(x, "-60 from the first DATE", x.businessFrom(19800101, -60), 19791009, 0);
        });
        edge("10", "NONE: 2.", () -> {
            BondCalendars x = new BondCalendars();
            due(x, "61", x.businessFrom(20000103, 61), -1, 2);
            due(x, "-61", x.businessFrom(20000103, -61), -1, 2);
            for (int n : FAR) {
                due(x, "businessFrom(20000103, " + n + ")", x.businessFrom(20000103, n), -1, 2);
            }
            for (int no : noDates()) {
                due(x, "businessFrom(" + no + ", 0)", x.businessFrom(no, 0), -1, 2);
            }
        });
    }

    private static void counted() {
        edge("11", "The FRACTION from d to e by a RULE (0 thirty, 1 euro, 2 money, 3 fixed): the upper or lower WHOLE.", () -> {
            BondCalendars x = new BondCalendars();
            long[][] due = {{31, 180}, {61, 360}, {31, 180}, {62, 365}};
            for (int rule = 0; rule < 4; rule++) {
                due(x, "upper by " + rule, x.counted(rule, 20000129, 20000331, false), due[rule][0], 0);
                due(x, "lower by " + rule, x.counted(rule, 20000129, 20000331, true), due[rule][1], 0);
                due(x, "upper of none by " + rule, x.counted(rule, 20000129, 20000129, false), 0, 0);
                due(x, "lower of none by " + rule, x.counted(rule, 20000129, 20000129, true), 1, 0);
            }
        });
        edge("11", "-1: 1 (RULE); 2 (DATES; e earlier).", () -> {
            BondCalendars x = new BondCalendars();
            due(x, "RULE 4", x.counted(4, 20000101, 20000102, false), -1, 1);
            due(x, "RULE -1", x.counted(-1, 20000101, 20000102, true), -1, 1);
            for (int rule : FAR) {
                due(x, "RULE " + rule, x.counted(rule, 20000101, 20000102, true), -1, 1);
            }
            for (int no : noDates()) {
                due(x, "RULE ahead of d " + no, x.counted(4, no, 20000102, true), -1, 1);
                due(x, "d " + no, x.counted(0, no, 20791231, true), -1, 2);
                due(x, "e " + no, x.counted(3, 19800101, no, true), -1, 2);
            }
            for (int rule = 0; rule < 4; rule++) {
                due(x, "e a day earlier", x.counted(rule, 20000102, 20000101, true), -1, 2);
                due(x, "e a day earlier, which counts as none", x.counted(rule, 20000131, 20000130, true), -1, 2);
                due(x, "e far earlier", x.counted(rule, 20791231, 19800101, false), -1, 2);
            }
        });
    }
}
