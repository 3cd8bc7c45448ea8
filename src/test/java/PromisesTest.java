import java.nio.charset.StandardCharsets;
import java.util.Arrays;
import java.util.NoSuchElementException;

/** The document's promises, one by one, with answers reckoned by hand. */
public final class PromisesTest {
    private static final String DESK = "desk from 20240101 cash 5000000";
    private static final String BOND_0 = "bond 600 per 2 thirty mature 20260630 issue 20240115 ex 3";
    private static final String BOND_1 = "bond 450 per 1 actual eom mature 20270228 last 20260228 issue 20231115 first 20250228";
    private static final String BOND_2 = "bond 0 per 4 money mature 20240630 issue 20240101";
    private static final String BOND_3 = "bond 365 per 1 fixed mature 20250101 issue 20240101";
    private static final String FULL = DESK + ";holiday 20240701;" + BOND_0 + ";" + BOND_1 + ";" + BOND_2 + ";" + BOND_3
            + ";holiday 20240102;quote 3 20240101 10000;quote 2 20240102 9950;quote 3 20240701 10000";
    private static final String ONE = "desk from 20000101 cash 0;bond 100 per 2 money mature 20050101 ";

    private static int wrong = 0;
    private static int asked = 0;

    public static void main(String[] args) {
        newObject();
        feed();
        desk();
        faults();
        lastAndFirst();
        where();
        dates();
        business();
        counted();
        bonds();
        periods();
        lines();
        settles();
        prices();
        brackets();
        quotes();
        fortyTimes();
        holdings();
        deals();
        daysGoBy();
        keepAndBack();
        told();
        System.out.println(asked + " answers asked for");
        System.out.println(wrong == 0 ? "all answers are as due" : wrong + " answers are not as due");
        if (wrong != 0) {
            System.exit(1);
        }
    }

    // ---- helpers

    private static void due(String what, long got, long want) {
        asked++;
        if (got != want) {
            wrong++;
            System.out.println(what + " answered " + got + ", due is " + want);
        }
    }

    /** An answer, and the TROUBLE behind it. */
    private static void due(BondCalendars x, String what, long got, long want, int trouble) {
        due(what, got, want);
        due("trouble() behind " + what, x.trouble(), trouble);
    }

    private static void due(String what, long bits, double want) {
        asked++;
        if (bits != Double.doubleToLongBits(want)) {
            wrong++;
            System.out.println(what + " answered " + Double.longBitsToDouble(bits) + ", due is " + want);
        }
    }

    private static void put(BondCalendars x, byte[] text) {
        byte[] all = Arrays.copyOf(text, (text.length + 19) / 20 * 20);
        for (int at = 0; at < all.length; at += 20) {
            int[] w = new int[5];
            for (int i = 0; i < 20; i++) {
                w[i / 4] = w[i / 4] << 8 | all[at + i] & 255;
            }
            x.feed(w[0], w[1], w[2], w[3], w[4]);
        }
    }

    private static int tell(BondCalendars x, String text) {
        byte[] bytes = text.getBytes(StandardCharsets.ISO_8859_1);
        put(x, bytes);
        return x.desk(bytes.length);
    }

    private static BondCalendars full() {
        BondCalendars x = new BondCalendars();
        due("desk of four", tell(x, FULL), 4);
        return x;
    }

    private static void fault(String text, int number, int place) {
        BondCalendars x = full();
        due(x, "desk: " + text, tell(x, text), -1, 4);
        due("fault: " + text, x.fault(), number);
        due("where: " + text, x.where(), place);
        due("size(0), as the DESK stays", x.size(0), 4);
    }

    private static void fine(String text, int bonds) {
        BondCalendars x = new BondCalendars();
        due(x, "desk: " + text, tell(x, text), bonds, 0);
        due("fault: " + text, x.fault(), 0);
        due("where: " + text, x.where(), -1);
    }

    // ---- promises 1 to 5

    private static void newObject() {
        BondCalendars x = new BondCalendars();
        due("fresh trouble", x.trouble(), 0);
        due("fresh fault", x.fault(), 0);
        due("fresh where", x.where(), -1);
        for (int what = 0; what < 5; what++) {
            due("fresh size " + what, x.size(what), 0);
        }
        due(x, "fresh bond", x.bond(0, 0), -1, 1);
        due(x, "fresh grid", x.grid(0, 4), -1, 1);
        due(x, "fresh period", x.period(0, 0, 0), -1, 1);
        due(x, "fresh current", x.current(0, 0), -1, 1);
        due(x, "fresh quote", x.quote(0, 0), -1, 1);
        due(x, "fresh off", x.off(-1), Long.MIN_VALUE, 1);
        due(x, "fresh flat", x.flat(), -1, 1);
        due(x, "fresh cheapest", x.cheapest(), -1, 1);
        due(x, "fresh now", x.now(), -1, 1);
        due(x, "fresh cash", x.cash(), Long.MIN_VALUE, 1);
        due(x, "fresh holding", x.holding(0), -1, 1);
        due(x, "fresh worth", x.worth(-9999), Long.MIN_VALUE, 1);
        due(x, "fresh deal", x.deal(0, 0, 0), Long.MIN_VALUE, 1);
        due(x, "fresh go", x.go(0), Long.MIN_VALUE, 1);
        due(x, "fresh income", x.income(0), Long.MIN_VALUE, 1);
        due(x, "fresh keep", x.keep() ? 1 : 0, 0, 1);
        due(x, "fresh back", x.back() ? 1 : 0, 0, 1);
    }

    private static void feed() {
        BondCalendars x = new BondCalendars();
        x.weekday(0);
        for (int n = 20; n <= 900; n += 20) {
            due("feed", x.feed(0x64657368, 0x64657368, 0, -1, 7), n);
        }
        due(x, "feed beyond 900", x.feed(1, 2, 3, 4, 5), -1, 2);
        due("size of a full tape", x.size(3), 900);
        due("desk of a full tape", x.desk(900), -1);
        due("first byte that goes wrong", x.where(), 0);
        due("feed behind desk", x.feed(0x6465736B, 0x20667265, 0, 0, 0), 20);
        due("desk frE", x.desk(20), -1);
        due("bytes, the highest first", x.where(), 5);
    }

    private static void desk() {
        BondCalendars x = new BondCalendars();
        put(x, (FULL + "      garbage").getBytes(StandardCharsets.ISO_8859_1));
        int all = x.size(3);
        due(x, "desk(-1)", x.desk(-1), -1, 2);
        due(x, "desk(more)", x.desk(all + 1), -1, 2);
        due("TAPE stays by 2", x.size(3), all);
        due("fault without a desk", x.fault(), 0);
        due(x, "desk(first bytes)", x.desk(FULL.length()), 4, 0);
        due("TAPE is empty", x.size(3), 0);
        due("deal", x.deal(2, 5, 9000), 45000);
        due("keep", x.keep() ? 1 : 0, 1);
        due(x, "a faulty desk", tell(x, "desk"), -1, 4);
        due("its fault", x.fault(), 1);
        due("TAPE is empty by 4", x.size(3), 0);
        due("what was held stays", x.holding(2), 5);
        due("what was kept stays", x.size(4), 1);
        due(x, "desk(1) of none", x.desk(1), -1, 2);
        due("the fault stays by 2", x.fault(), 1);
        due("where by 2", x.where(), -1);
        due(x, "a new desk", tell(x, FULL), 4, 0);
        due("fault then", x.fault(), 0);
        due("nothing held", x.holding(2), 0);
        due("nothing kept", x.size(4), 0);
        due("CASH anew", x.cash(), 5000000);
        due("a desk alone", tell(x, " desk   from20790101cash007 "), 0);
        due("its cash", x.cash(), 7);
        due("its bonds", x.size(0), 0);
        due("its quotes", x.size(1), 0);
        due("its HOLIDAYS", x.size(2), 0);
        due(x, "no bond any more", x.bond(0, 0), -1, 1);
    }

    private static void faults() {
        fault("", 1, 0);
        fault("   ", 1, 3);
        fault("desk", 1, 4);
        fault("desk  ", 1, 6);
        fault("Desk from 20000101 cash 0", 1, 0);
        fault(";desk from 20000101 cash 0", 1, 0);
        fault("foo", 1, 0);
        fault("tesk from 20000101 cash 0", 1, 0);
        fault("desk prom 20000101 cash 0", 1, 5);
        fault("desk from 20000101 cast 0", 1, 19);
        fault("20000101", 1, 0);
        fault("deskfrom 20000101 cash 0", 1, 0);
        fault("desk cash", 1, 5);
        fault("desk from cash", 1, 10);
        fault("desk from 20000101 cash x", 1, 24);
        fault("desk from 20000101 cash 123456789", 1, 24);
        fault("desk from 20000101 cash -1", 1, 24);
        fault("desk from 20000101\ncash 1", 1, 18);
        fault("desk from 20000101 cash 0 0", 1, 26);
        fault("desk from 20000101 cash 0;;", 1, 26);
        fault("desk from 20000101 cash 0;from", 1, 26);
        fault("desk from 20000101 cash 0\u0000", 1, 25);
        fault("desk from 20000101 cash 0;bond 1 per 1 moneyeom", 1, 39);
        fault("desk from 20000101 cash 0;bond 1 per 1 money eom eom", 1, 49);
        fault(ONE + "last 20041231 last 20041231", 1, 77);
        fault(ONE + "issue 20000110 ex 1 first 20000701", 1, 83);
        fault(ONE + "issue 20000110 ex", 1, 80);
        fault("desk from 19791231 cash 0", 2, 10);
        fault("desk from 20800101 cash 0", 2, 10);
        fault("desk from 21000229 cash 0", 2, 10);
        fault("desk from 20010229 cash 0", 2, 10);
        fault("desk from 20000000 cash 0", 2, 10);
        fault("desk from 1 cash 0", 2, 10);
        fault("desk from 20000101 cash 0;holiday 20000431", 2, 34);
        fault("desk from 20000101 cash 0;bond 2001 foo", 2, 31);
        fault("desk from 20000101 cash 0;bond 1 per 0", 2, 37);
        fault("desk from 20000101 cash 0;bond 1 per 5", 2, 37);
        fault(ONE + "issue 20000110 ex 11", 2, 81);
        fault(ONE + "issue 20000110;quote 1", 2, 84);
        fault(ONE + "issue 20000110;quote 0 20000230", 2, 86);
        fault(ONE + "issue 20000110;quote 0 20000229 0", 2, 95);
        fault(ONE + "issue 20000110;quote 0 20000229 100000", 2, 95);
        fault("desk from 20000101 cash 0;desk", 3, 26);
        fault("desk from 20000101 cash 0;holiday 20000101;holiday 20000102;holiday 20000101", 3, 68);
        fault(ONE + "issue 20000110;quote 0 20000109 1", 4, 86);
        fault(ONE + "issue 20000110;quote 0 20050101 1", 4, 86);
        fault(DESK + ";" + BOND_0 + ";" + BOND_0 + ";" + BOND_0 + ";" + BOND_0 + ";bond", 6,
                DESK.length() + 1 + 4 * (BOND_0.length() + 1));
        String quoted = ONE + "issue 20000110";
        for (int i = 0; i < 6; i++) {
            quoted += ";quote 0 20000229 1";
        }
        fine(quoted, 1);
        fault(quoted + ";quote", 6, quoted.length() + 1);
        String holidays = DESK;
        for (int i = 10; i < 20; i++) {
            holidays += ";holiday 200001" + i;
        }
        fine(holidays, 0);
        fault(holidays + "; holiday 20000101", 6, holidays.length() + 2);
        fault("bond", 7, 0);
        fault("  quote 0", 7, 2);
        fault("holiday 20000101;desk from 20000101 cash 0", 7, 0);
        fine(ONE + "issue 20000110;quote 0 20000110 1;quote 0 20041231 99999;holiday 19800101", 1);
        fine("desk from 19800101 cash 99999999;holiday 20791231", 0);
        fine("desk from 20000101 cash 0;bond 2000 per 4 euro mature 20791231 issue 20791230 ex 10", 1);
    }

    private static void lastAndFirst() {
        fault(ONE + "last 20050101", 4, 68);
        fault(ONE + "last 20050102", 4, 68);
        fault(ONE + "last 20030630", 4, 68);
        fine(ONE + "last 20030701 issue 20000110", 1);
        fine(ONE + "last 20041231 issue 20000110", 1);
        // The DATE three STEPS later than last is told of last alone: eom doesn't move it.
        String eom = "desk from 20000101 cash 0;bond 1 per 2 money eom mature ";
        fine(eom + "20020330 last 20000930 issue 20000110", 1);
        fault(eom + "20020331 last 20000930 issue 20000110", 4, 70);
        fault(ONE + "issue 20050101", 4, 69);
        fault(ONE + "last 20041231 issue 20041231", 4, 83);
        fine(ONE + "issue 20041231", 1);
        fault(ONE + "issue 20000110 first 20050701", 4, 84);
        fault(ONE + "issue 20000110 first 20000702", 4, 84);
        fault(ONE + "issue 20000110 first 20000101", 4, 84);
        fault(ONE + "issue 20000701 first 20000701", 4, 84);
        fault(ONE + "issue 20000110 first 20020101", 4, 84);
        fine(ONE + "issue 20000110 first 20010701", 1);
        fine(ONE + "issue 20000101 first 20010701", 1);
        fine(ONE + "issue 20040110 first 20050101", 1);
        String quarters = "desk from 20000101 cash 0;bond 100 per 4 money mature 20050101 issue ";
        fine(quarters + "19850101", 1);
        fault(quarters + "19841231", 5, 69);
        fault(quarters + "20050101", 4, 69);
    }

    private static void where() {
        BondCalendars x = new BondCalendars();
        due("a faulty desk", tell(x, "desk from x"), -1);
        due("where", x.where(), 10);
        due("fed", x.feed(0, 0, 0, 0, 0), 20);
        due("sized", x.size(9), -1);
        due("where, as feed and size are never refused by a number", x.where(), 10);
        due("weekday", x.weekday(20000101), 5);
        due("where then", x.where(), -1);
        due("fault then", x.fault(), 1);
    }

    // ---- promises 6 to 11

    private static void dates() {
        BondCalendars x = new BondCalendars();
        due(x, "days", x.days(19800101, 20791231), 36524, 0);
        due(x, "days back", x.days(20791231, 19800101), -36524, 0);
        due(x, "days none", x.days(20240229, 20240229), 0, 0);
        due(x, "days over a leap day", x.days(20240228, 20240301), 2, 0);
        due(x, "days wrong d", x.days(20230229, 20240101), Integer.MIN_VALUE, 2);
        due(x, "days wrong e", x.days(20240101, 20800101), Integer.MIN_VALUE, 2);
        due(x, "days wrong both", x.days(Integer.MIN_VALUE, Integer.MAX_VALUE), Integer.MIN_VALUE, 2);
        due(x, "weekday of a Tuesday", x.weekday(19800101), 1, 0);
        due(x, "weekday of a Sunday", x.weekday(20791231), 6, 0);
        due(x, "weekday of a Monday", x.weekday(20240701), 0, 0);
        due(x, "weekday wrong", x.weekday(19791231), -1, 2);
        due(x, "weekday wrong month", x.weekday(20001301), -1, 2);
        due(x, "months", x.months(20240131, 1, false), 20240229, 0);
        due(x, "months at a month's end", x.months(20230430, 1, true), 20230531, 0);
        due(x, "months without eom", x.months(20230430, 1, false), 20230530, 0);
        due(x, "months, no month's end", x.months(20230429, 1, true), 20230529, 0);
        due(x, "months of a leap day", x.months(20240229, 120, false), 20340228, 0);
        due(x, "months out of bounds", x.months(20791231, 2, false), 20800229, 0);
        due(x, "months far back", x.months(19800131, -120, true), 19700131, 0);
        due(x, "no months", x.months(20240131, 0, true), 20240131, 0);
        due(x, "months 121", x.months(20240131, 121, true), -1, 2);
        due(x, "months -121", x.months(20240131, -121, true), -1, 2);
        due(x, "months of no date", x.months(20240132, 1, true), -1, 2);
    }

    private static void business() {
        BondCalendars x = new BondCalendars();
        due(x, "Monday, no DESK", x.business(20240701), 1, 0);
        due("Saturday", x.business(20240629), 0);
        due(x, "no date", x.business(0), -1, 2);
        due(x, "back over New Year 1980", x.businessFrom(19800101, -2), 19791228, 0);
        due(x, "60 of them", x.businessFrom(20240701, 60), 20240923, 0);
        due(x, "-60 of them", x.businessFrom(20240923, -60), 20240701, 0);
        due(x, "61 of them", x.businessFrom(20240701, 61), -1, 2);
        due(x, "-61 of them", x.businessFrom(20240701, -61), -1, 2);
        due(x, "from no date", x.businessFrom(20240631, 1), -1, 2);
        due("beyond 2079", x.businessFrom(20791231, 1), 20800101);
        x = full();
        due("Monday, a HOLIDAY", x.business(20240701), 0);
        due("from Friday over it", x.businessFrom(20240628, 1), 20240702);
        due("back over it", x.businessFrom(20240702, -1), 20240628);
        due("0 from a HOLIDAY", x.businessFrom(20240701, 0), 20240701);
    }

    private static void counted() {
        BondCalendars x = new BondCalendars();
        int[][] cases = {
            {0, 20240131, 20240331, 1, 6}, {0, 20240130, 20240331, 1, 6}, {0, 20240129, 20240331, 31, 180},
            {0, 20240228, 20240331, 11, 120}, {1, 20240129, 20240331, 61, 360}, {1, 20240131, 20240331, 1, 6},
            {1, 20240130, 20240131, 0, 1}, {0, 20240130, 20240131, 0, 1}, {0, 20230615, 20240614, 359, 360},
            {2, 20230101, 20240101, 73, 72}, {2, 20240101, 20240102, 1, 360}, {3, 20240101, 20250101, 366, 365},
            {3, 20230101, 20240101, 1, 1}, {3, 20240101, 20240101, 0, 1}, {0, 19800101, 20791231, 3600, 36}};
        for (int[] c : cases) {
            String what = "counted " + Arrays.toString(c);
            long upper = c[1] == 19800101 ? 100 : c[3];
            long lower = c[1] == 19800101 ? 1 : c[4];
            due(x, what, x.counted(c[0], c[1], c[2], false), upper, 0);
            due(x, what, x.counted(c[0], c[1], c[2], true), lower, 0);
        }
        due(x, "counted actual", x.counted(4, 20240101, 20240102, true), -1, 1);
        due(x, "counted -1", x.counted(-1, 0, 0, true), -1, 1);
        due(x, "counted wrong d", x.counted(0, 20230229, 20240102, true), -1, 2);
        due(x, "counted wrong e", x.counted(0, 20230228, 20240132, true), -1, 2);
        due(x, "counted earlier", x.counted(0, 20240102, 20240101, true), -1, 2);
    }

    // ---- promises 12 to 18

    private static void bonds() {
        BondCalendars x = full();
        int[] first = {600, 2, 0, 20260630, 20260630, 20240115, 0, 3, 5};
        int[] second = {450, 1, 4, 20270228, 20260228, 20231115, 1, 0, 3};
        for (int what = 0; what < 9; what++) {
            due(x, "bond 0 " + what, x.bond(0, what), first[what], 0);
            due(x, "bond 1 " + what, x.bond(1, what), second[what], 0);
        }
        due("RULE money", x.bond(2, 2), 2);
        due("RULE fixed", x.bond(3, 2), 3);
        due(x, "bond 4", x.bond(4, 0), -1, 1);
        due(x, "bond -1", x.bond(-1, 0), -1, 1);
        due(x, "bond what 9", x.bond(0, 9), -1, 1);
        due(x, "bond what -1", x.bond(0, -1), -1, 1);
        due(x, "grid 0", x.grid(0, 0), 20260630, 0);
        due("grid -1", x.grid(0, -1), 20251230);
        due("grid 1", x.grid(0, 1), 20261230);
        due("grid by eom", x.grid(1, -2), 20240229);
        due("grid 1 by eom", x.grid(1, 1), 20270228);
        due("grid 3 by eom", x.grid(1, 3), 20290228);
        due("grid 2 by eom", x.grid(1, 2), 20280229);
        due("grid -90", x.grid(1, -90), 19360229);
        due(x, "grid -91", x.grid(1, -91), -1, 2);
        due(x, "grid 4", x.grid(1, 4), -1, 2);
        due(x, "grid of no bond", x.grid(4, 4), -1, 1);
        tell(x, "desk from 20000101 cash 0;bond 1 per 1 euro eom mature 20240228 issue 20000101");
        due("eom of no month's end", x.grid(0, -1), 20230228);
        due("eom of no month's end, leap", x.grid(0, -4), 20200228);
        due("eom is told all the same", x.bond(0, 6), 1);
        due("RULE euro", x.bond(0, 2), 1);
        tell(x, "desk from 20000101 cash 0;bond 1 per 1 euro eom mature 19880229 issue 19800101;"
                + "bond 1 per 1 euro mature 19880301 issue 19800101");
        due("1900 has no leap day", x.grid(0, -88), 19000228);
        due("the day behind", x.grid(1, -88), 19000301);
        tell(x, "desk from 20000101 cash 0;bond 1 per 4 euro mature 20050101 issue 19850101");
        due("80 PERIODS", x.bond(0, 8), 80);
        tell(x, "desk from 20000101 cash 0;bond 1 per 4 euro mature 20050102 last 20050101 issue 19850101");
        due("81 PERIODS", x.bond(0, 8), 81);
        due("the last of 81", x.period(0, 80, 0), 20050101);
        due("its END", x.period(0, 80, 1), 20050102);
    }

    private static void periods() {
        BondCalendars x = full();
        int[] first = {20240115, 20240630, 167, 20240626, 20240702, 0, 0};
        int[] second = {20240630, 20241230, 183, 20241225, 20241230, 1, 0};
        for (int what = 0; what < 7; what++) {
            due(x, "period 0 0 " + what, x.period(0, 0, what), first[what], 0);
            due(x, "period 0 1 " + what, x.period(0, 1, what), second[what], 0);
        }
        due("a mature one STEP behind last", x.period(1, 2, 5), 1);
        due("a long first", x.period(1, 0, 5), 0);
        due("without ex, EX is END", x.period(1, 0, 3), 20250228);
        due(x, "period what 7", x.period(0, 0, 7), -1, 1);
        due(x, "period what -1", x.period(0, 0, -1), -1, 1);
        due(x, "period 5", x.period(0, 5, 0), -1, 1);
        due(x, "period -1", x.period(0, -1, 0), -1, 1);
        due(x, "period of no bond", x.period(4, 0, 0), -1, 1);
        ratio(x, "fraction thirty", x.fraction(0, 0, false), x.fraction(0, 0, true), 11, 24);
        ratio(x, "fraction actual, long first", x.fraction(1, 0, false), x.fraction(1, 0, true), 236, 183);
        ratio(x, "fraction actual", x.fraction(1, 2, false), x.fraction(1, 2, true), 1, 1);
        ratio(x, "fraction money", x.fraction(2, 0, false), x.fraction(2, 0, true), 89, 360);
        ratio(x, "fraction fixed", x.fraction(3, 0, false), x.fraction(3, 0, true), 366, 365);
        ratio(x, "coupon thirty", x.coupon(0, 0, false), x.coupon(0, 0, true), 11, 4);
        ratio(x, "coupon actual", x.coupon(1, 0, false), x.coupon(1, 0, true), 354, 61);
        ratio(x, "coupon of rate 0", x.coupon(2, 0, false), x.coupon(2, 0, true), 0, 1);
        ratio(x, "coupon fixed", x.coupon(3, 0, false), x.coupon(3, 0, true), 183, 50);
        due(x, "fraction 5", x.fraction(0, 5, true), -1, 1);
        due(x, "fraction -1", x.fraction(0, -1, true), -1, 1);
        due(x, "fraction of no bond", x.fraction(-1, 0, true), -1, 1);
        due(x, "coupon 5", x.coupon(0, 5, false), -1, 1);
        due(x, "coupon of no bond", x.coupon(4, 0, false), -1, 1);
        tell(x, "desk from 20000101 cash 0;bond 365 per 2 actual mature 20020401 last 20010131 issue 20000731 ex 10");
        // From 20010131: a half by 20010731, a half by 20020131, then 60 of twice the 181 days to 20020731.
        ratio(x, "fraction actual, long last", x.fraction(0, 1, false), x.fraction(0, 1, true), 211, 181);
        due("its EX", x.period(0, 1, 3), 20020318);
        due("END on a Wednesday, PAY on it", x.period(0, 0, 4), 20010131);
    }

    private static void ratio(BondCalendars x, String what, long upper, long lower, long dueUpper, long dueLower) {
        due(x, what + " (upper)", upper, dueUpper, 0);
        due(x, what + " (lower)", lower, dueLower, 0);
    }

    private static void lines() {
        BondCalendars x = full();
        String[] all = {"2024-06-30 11/4", "2024-12-30 3/1", "2025-06-30 3/1"};
        for (int k = 0; k < all.length; k++) {
            due(x, "line " + k, x.line(0, k), all[k].length(), 0);
            for (int i = 0; i < all[k].length(); i++) {
                due(x, "sign " + k + " " + i, x.sign(0, k, i), all[k].charAt(i), 0);
            }
        }
        due("line of rate 0", x.line(2, 0), "2024-03-30 0/1".length());
        due("its 0", x.sign(2, 0, 11), '0');
        due(x, "line of no period", x.line(0, 5), -1, 1);
        due(x, "line of no bond", x.line(4, 0), -1, 1);
        due(x, "sign behind the last", x.sign(0, 0, 15), -1, 1);
        due(x, "sign -1", x.sign(0, 0, -1), -1, 1);
        due(x, "sign of no period", x.sign(0, -1, 0), -1, 1);
        due(x, "sign of no bond", x.sign(-1, 0, 0), -1, 1);
    }

    // ---- promises 19 to 28

    private static void settles() {
        BondCalendars x = full();
        due(x, "current at issue", x.current(0, 20240115), 0, 0);
        due(x, "current ahead of END", x.current(0, 20240629), 0, 0);
        due(x, "current at END", x.current(0, 20240630), 1, 0);
        due(x, "current at last", x.current(0, 20260629), 4, 0);
        due(x, "current at mature", x.current(0, 20260630), -1, 5);
        due(x, "current ahead of issue", x.current(0, 20240114), -1, 5);
        due(x, "current of no date", x.current(0, 20240631), -1, 2);
        due(x, "current of no bond", x.current(4, 20240631), -1, 1);
        due(x, "isEx", x.isEx(0, 20240626), 1, 0);
        due(x, "isEx ahead", x.isEx(0, 20240625), 0, 0);
        due(x, "isEx at END", x.isEx(0, 20240630), 0, 0);
        due(x, "isEx without ex", x.isEx(1, 20250227), 0, 0);
        due(x, "isEx, no SETTLE", x.isEx(0, 20240114), -1, 5);
        due(x, "isEx of no date", x.isEx(0, 20230229), -1, 2);
        due(x, "isEx of no bond", x.isEx(-1, 20230229), -1, 1);
        ratio(x, "accrued", x.accrued(0, 20240625, false), x.accrued(0, 20240625, true), 8, 3);
        ratio(x, "accrued when EX", x.accrued(0, 20240626, false), x.accrued(0, 20240626, true), -1, 15);
        ratio(x, "accrued at START", x.accrued(0, 20240630, false), x.accrued(0, 20240630, true), 0, 1);
        // 106 days of 366 by 20240229, 1 of 365 then.
        ratio(x, "accrued actual", x.accrued(1, 20240301, false), x.accrued(1, 20240301, true), 29292, 22265);
        due(x, "accrued, no SETTLE", x.accrued(0, 20260630, false), Long.MIN_VALUE, 5);
        due(x, "accrued of no date", x.accrued(0, 0, false), Long.MIN_VALUE, 2);
        due(x, "accrued of no bond", x.accrued(4, 0, false), Long.MIN_VALUE, 1);
        ratio(x, "rest", x.rest(0, 20240626, false), x.rest(0, 20240626, true), 1, 15);
        ratio(x, "rest of a whole one", x.rest(0, 20240630, false), x.rest(0, 20240630, true), 3, 1);
        due(x, "rest, no SETTLE", x.rest(0, 20260630, false), -1, 5);
        due(x, "rest of no date", x.rest(0, 20240230, false), -1, 2);
        due(x, "rest of no bond", x.rest(4, 20240230, false), -1, 1);
    }

    private static void prices() {
        BondCalendars x = full();
        double y = 500 / 10000.0;
        double g = 1.0 + y * 1.0;
        double last = 0.0 + 4.5 / g;
        g = g * (1.0 + y * 1.0);
        last = last + (4.5 + 100.0) / g;
        due("dirty of two whole periods", x.dirty(1, 20250228, 500), last);
        due("clean likewise", x.clean(1, 20250228, 500), last);
        due("dirty at 0", x.dirty(3, 20240101, 0), 103.66);
        due("clean at 0", x.clean(3, 20240630, 0), 103.66 - 181.0 / 100.0);
        double ex = 1.0 + -0.2 * (4.0 / 360.0);
        double v = 0.0 + 0.0 / ex;
        for (int k = 1; k < 5; k++) {
            ex = ex * (1.0 + -0.2 * 0.5);
            v = v + (k == 4 ? 3.0 + 100.0 : 3.0) / ex;
        }
        due("dirty when EX, at -2,000", x.dirty(0, 20240626, -2000), v);
        due("clean when EX, at -2,000", x.clean(0, 20240626, -2000), v + 1.0 / 15.0);
        due("dirty at 10,000", x.dirty(3, 20240101, 10000), 103.66 / (1.0 + 366.0 / 365.0));
        due("risk", x.risk(3, 20240101, 0),
                (103.66 / (1.0 + -0.0001 * (366.0 / 365.0)) - 103.66 / (1.0 + 0.0001 * (366.0 / 365.0))) / 2.0);
        due("trouble of risk", x.trouble(), 0);
        due(x, "dirty -2,001", x.dirty(0, 20240114, -2001), Long.MIN_VALUE, 2);
        due(x, "dirty 10,001", x.dirty(0, 20240115, 10001), Long.MIN_VALUE, 2);
        due(x, "dirty of no date", x.dirty(0, 20240230, 0), Long.MIN_VALUE, 2);
        due(x, "dirty, no SETTLE", x.dirty(0, 20240114, 0), Long.MIN_VALUE, 5);
        due(x, "dirty of no bond", x.dirty(4, 20240114, -2001), Long.MIN_VALUE, 1);
        due(x, "clean 10,001", x.clean(0, 20240114, 10001), Long.MIN_VALUE, 2);
        due(x, "clean, no SETTLE", x.clean(0, 20240114, 10000), Long.MIN_VALUE, 5);
        due(x, "clean of no bond", x.clean(-1, 20240114, 10001), Long.MIN_VALUE, 1);
        due(x, "risk -2,000", x.risk(0, 20240115, -2000), Long.MIN_VALUE, 2);
        due(x, "risk 10,000", x.risk(0, 20240115, 10000), Long.MIN_VALUE, 2);
        due(x, "risk, no SETTLE", x.risk(0, 20260630, 9999), Long.MIN_VALUE, 5);
        due(x, "risk of no bond", x.risk(4, 20260630, 10000), Long.MIN_VALUE, 1);
        due(x, "risk at -1,999", x.risk(3, 20240101, -1999) > 0 ? 1 : 0, 1, 0);
        due(x, "risk at 9,999", x.risk(3, 20240101, 9999) > 0 ? 1 : 0, 1, 0);
    }

    private static double priceOf3(double y) {
        return 0.0 + 103.66 / (1.0 + y * (366.0 / 365.0));
    }

    private static void brackets() {
        BondCalendars x = full();
        due("LOW, not narrowed", x.bracket(3, 20240101, 10000, 0, false), -0.2);
        due("HIGH, not narrowed", x.bracket(3, 20240101, 10000, 0, true), 1.0);
        double middle = (-0.2 + 1.0) / 2.0;
        due("HIGH, once", x.bracket(3, 20240101, 10000, 1, true), middle);
        due("LOW, once", x.bracket(3, 20240101, 10000, 1, false), -0.2);
        double secant = -0.2 + (middle - -0.2) * ((priceOf3(-0.2) - 100.0) / (priceOf3(-0.2) - priceOf3(middle)));
        due("HIGH, twice", x.bracket(3, 20240101, 10000, 2, true), secant);
        double third = (-0.2 + secant) / 2.0;
        due("LOW, thrice", x.bracket(3, 20240101, 10000, 3, false), third);
        due("HIGH, thrice", x.bracket(3, 20240101, 10000, 3, true), secant);
        double low = Double.longBitsToDouble(x.bracket(3, 20240101, 10000, 60, false));
        double high = Double.longBitsToDouble(x.bracket(3, 20240101, 10000, 60, true));
        due("60 times: round 3.65 by 100", low < 0.0365 + 1e-12 && high > 0.0365 - 1e-12 && high - low < 1e-9 ? 1 : 0, 1);
        due(x, "bracket, 61 times", x.bracket(3, 20240101, 10000, 61, true), Long.MIN_VALUE, 2);
        due(x, "bracket, -1 times", x.bracket(3, 20250101, 10000, -1, true), Long.MIN_VALUE, 2);
        due(x, "bracket of price 0", x.bracket(3, 20240101, 0, 0, true), Long.MIN_VALUE, 2);
        due(x, "bracket of price 100,000", x.bracket(3, 20240101, 100000, 0, true), Long.MIN_VALUE, 2);
        due(x, "bracket, no SETTLE", x.bracket(3, 20250101, 10000, 0, true), Long.MIN_VALUE, 5);
        due(x, "bracket of no bond", x.bracket(4, 20250101, 0, 0, true), Long.MIN_VALUE, 1);
        due(x, "bracket, too dear", x.bracket(3, 20240101, 99999, 0, true), Long.MIN_VALUE, 5);
        due(x, "bracket, too cheap", x.bracket(3, 20240101, 1, 0, true), Long.MIN_VALUE, 5);
        narrowsAndPoints(x);
        timeless();
    }

    /** From day 30 to day 31 no time goes by the thirty rule: the price is 100 at every yield. */
    private static void timeless() {
        BondCalendars x = new BondCalendars();
        tell(x, "desk from 20230101 cash 0;bond 100 per 1 thirty mature 20230131 issue 20230130");
        due("dirty", x.dirty(0, 20230130, 10000), 100.0);
        due("risk", x.risk(0, 20230130, 0), 0.0);
        double middle = (-0.2 + 1.0) / 2.0;
        due("it HOLDS by being equal; LOW, once", x.bracket(0, 20230130, 10000, 1, false), middle);
        due("LOW, twice, by no secant", x.bracket(0, 20230130, 10000, 2, false), (middle + 1.0) / 2.0);
        due("HIGH, twice", x.bracket(0, 20230130, 10000, 2, true), 1.0);
        due(x, "narrows by halves", x.narrows(0, 20230130, 10000), 21, 0);
        due(x, "doesn't HOLD by one more", x.bracket(0, 20230130, 10001, 1, false), Long.MIN_VALUE, 5);
        due(x, "doesn't HOLD by one less", x.narrows(0, 20230130, 9999), -1, 5);
        due(x, "pointsAt by being equal", x.pointsAt(0, 20230130, 10000), 10000, 0);
        due(x, "pointsAt none", x.pointsAt(0, 20230130, 10001), Integer.MIN_VALUE, 0);
    }

    private static void narrowsAndPoints(BondCalendars x) {
        int n = x.narrows(3, 20240101, 10000);
        due("trouble of narrows", x.trouble(), 0);
        due("narrows in bounds", n > 1 && n <= 60 ? 1 : 0, 1);
        due("narrow enough by then", widthOf(x, n) <= 0.000001 ? 1 : 0, 1);
        due("not narrow enough before", widthOf(x, n - 1) > 0.000001 ? 1 : 0, 1);
        due(x, "narrows, too dear", x.narrows(3, 20240101, 99999), -1, 5);
        due(x, "narrows, no SETTLE", x.narrows(3, 20250101, 10000), -1, 5);
        due(x, "narrows of price 0", x.narrows(3, 20250101, 0), -1, 2);
        due(x, "narrows of price 100,000", x.narrows(3, 20250101, 100000), -1, 2);
        due(x, "narrows of no bond", x.narrows(4, 20250101, 0), -1, 1);
        // 103.66 / 1.0366 is 100: at 365 points (366 / 365 years) it is just 100, give or take a rounding.
        int exact = 103.66 / (1.0 + 0.0365 * (366.0 / 365.0)) >= 100.0 ? 365 : 364;
        due(x, "pointsAt 100", x.pointsAt(3, 20240101, 10000), exact, 0);
        due(x, "pointsAt 90", x.pointsAt(3, 20240101, 9000), 1513, 0);
        due(x, "pointsAt, at all", x.pointsAt(3, 20240101, 1), 10000, 0);
        due(x, "pointsAt, at none", x.pointsAt(3, 20240101, 99999), Integer.MIN_VALUE, 0);
        due(x, "pointsAt of price 0", x.pointsAt(3, 20240101, 0), Integer.MIN_VALUE, 2);
        due(x, "pointsAt of price 100,000", x.pointsAt(3, 20250101, 100000), Integer.MIN_VALUE, 2);
        due(x, "pointsAt, no SETTLE", x.pointsAt(3, 20250101, 10000), Integer.MIN_VALUE, 5);
        due(x, "pointsAt of no bond", x.pointsAt(4, 20250101, 0), Integer.MIN_VALUE, 1);
    }

    private static double widthOf(BondCalendars x, int n) {
        return Double.longBitsToDouble(x.bracket(3, 20240101, 10000, n, true))
                - Double.longBitsToDouble(x.bracket(3, 20240101, 10000, n, false));
    }

    // ---- promises 29 to 32

    private static void quotes() {
        BondCalendars x = full();
        int[][] all = {{3, 20240101, 10000}, {2, 20240102, 9950}, {3, 20240701, 10000}};
        for (int i = 0; i < 3; i++) {
            for (int what = 0; what < 3; what++) {
                due(x, "quote " + i + " " + what, x.quote(i, what), all[i][what], 0);
            }
        }
        due(x, "quote 3", x.quote(3, 0), -1, 1);
        due(x, "quote -1", x.quote(-1, 0), -1, 1);
        due(x, "quote what 3", x.quote(0, 3), -1, 1);
        due(x, "quote what -1", x.quote(0, -1), -1, 1);
        double off = 0.0 + (103.66 - 100.0);
        off = off + (100.0 - 99.5);
        // 182 days accrued by 20240701: 182 hundredths.
        off = off + (103.66 - 1.82 - 100.0);
        due("off at 0", x.off(0), off);
        due("off is never refused there", x.trouble(), 0);
        due(x, "off -1", x.off(-1), Long.MIN_VALUE, 2);
        due(x, "off 2,001", x.off(2001), Long.MIN_VALUE, 2);
        due("off at 2,000 is more", x.off(2000) > x.off(0) ? 1 : 0, 1);
        int flat = x.flat();
        due(x, "flat", flat, bestOf(FULL), 0);
        due(x, "flat again", x.flat(), flat, 0);
        due(x, "cheapest", x.cheapest(), 0, 0);
        tell(x, ONE + "issue 20000110");
        due("off without quotes", x.off(7), 0.0);
        due(x, "flat without quotes", x.flat(), -2, 0);
        due(x, "cheapest without quotes", x.cheapest(), -2, 0);
        String none = DESK + ";" + BOND_3 + ";quote 0 20240101 1;quote 0 20240101 99999";
        tell(x, none);
        due(x, "cheapest of none that holds", x.cheapest(), -2, 0);
        due("flat where all are off alike is the least", x.flat(), bestOf(none));
        String several = DESK + ";" + BOND_3
                + ";quote 0 20240101 1;quote 0 20240101 9900;quote 0 20240101 9800;quote 0 20240101 9800";
        tell(x, several);
        due(x, "cheapest, of several the first", x.cheapest(), 2, 0);
        due("flat of the new DESK", x.flat(), bestOf(several));
        // One payment of 100 on the day 360 days on: at z points the price is 100 / (1 + z / 10000).
        tell(x, "desk from 20230101 cash 0;bond 0 per 1 money mature 20231227 issue 20230101;quote 0 20230101 8000");
        due("flat by a single price", x.flat(), 2000);
        tell(x, "desk from 20230101 cash 0;bond 0 per 1 money mature 20231227 issue 20230101;quote 0 20230101 10100");
        due("flat at the lowest", x.flat(), 0);
        tell(x, "desk from 20230101 cash 0;bond 0 per 1 money mature 20231227 issue 20230101;quote 0 20230101 9524");
        due("flat between", x.flat(), 500);
        tell(x, "desk from 20230101 cash 0;bond 0 per 1 money mature 20231227 issue 20230101;quote 0 20230101 9999");
        due("flat next to the lowest", x.flat(), 1);
        tell(x, "desk from 20230101 cash 0;bond 0 per 1 thirty mature 20230131 issue 20230130;quote 0 20230130 9524");
        due("flat of a bond of no time is the least", x.flat(), 0);
    }

    /** Quotes at par that the fortieth time, neither one less nor one more, puts in this order. */
    private static void fortyTimes() {
        BondCalendars x = new BondCalendars();
        tell(x, "desk from 20000101 cash 0;bond 1568 per 2 actual mature 20320601 issue 20000101;"
                + "quote 0 20091201 10000;quote 0 20180601 10000");
        due("cheapest by not 39 times", x.cheapest(), 1);
        tell(x, "desk from 20000101 cash 0;bond 508 per 1 actual mature 20490309 issue 20000101;"
                + "quote 0 20090309 10000;quote 0 20170309 10000");
        due("cheapest by not 41 times", x.cheapest(), 1);
    }

    private static int bestOf(String text) {
        int best = 0;
        double least = Double.MAX_VALUE;
        BondCalendars x = null;
        for (int z = 0; z <= 2000; z++) {
            if (z % 400 == 0) {
                // An object is good for 512 calls only.
                x = new BondCalendars();
                tell(x, text);
            }
            double off = Double.longBitsToDouble(x.off(z));
            if (off < least) {
                least = off;
                best = z;
            }
        }
        return best;
    }

    // ---- promises 33 to 41

    private static void holdings() {
        BondCalendars x = full();
        due(x, "now", x.now(), 20240101, 0);
        due(x, "cash", x.cash(), 5000000, 0);
        for (int b = 0; b < 4; b++) {
            due(x, "holding " + b, x.holding(b), 0, 0);
        }
        due(x, "holding 4", x.holding(4), -1, 1);
        due(x, "holding -1", x.holding(-1), -1, 1);
        due("worth of CASH alone", x.worth(0), 50000.0);
        x.deal(3, 10, 10000);
        x.deal(2, 2, 9950);
        due("cash then", x.cash(), 5000000 - 100000 - 19900);
        due("worth", x.worth(0), 48801.0 + 10 * 103.66 + 2 * 100.0);
        due(x, "worth -2,001", x.worth(-2001), Long.MIN_VALUE, 2);
        due(x, "worth 10,001", x.worth(10001), Long.MIN_VALUE, 2);
        double g = 1.0;
        double v = 0.0;
        for (int k = 0; k < 2; k++) {
            g = k == 0 ? 1.0 + 1.0 * (89.0 / 360.0) : g * (1.0 + 1.0 * (x.period(2, k, 2) / 360.0));
            v = v + (k == 1 ? 100.0 : 0.0) / g;
        }
        due("periods of bond 2", x.bond(2, 8), 2);
        due("worth at 10,000", x.worth(10000), 0.0 + 48801.0 + 2 * v + 10 * priceOf3(1.0));
        for (int cash : new int[] {25, 50, 100, 200, 12800, 26214400}) {
            BondCalendars y = new BondCalendars();
            tell(y, "desk from 20000101 cash " + cash);
            due("worth of a power of two", y.worth(0), cash / 100.0);
        }
        due("go to mature of bond 2", x.go(181), 0);
        due("at it", x.now(), 20240630);
        due("it is held till PAY", x.holding(2), 2);
        due("but is no SETTLE", x.worth(0), x.cash() / 100.0 + 10 * 103.66);
    }

    private static void deals() {
        BondCalendars x = full();
        due(x, "deal ahead of issue", x.deal(0, 1, 10000), Long.MIN_VALUE, 5);
        due(x, "deal of no bond", x.deal(4, 0, 0), Long.MIN_VALUE, 1);
        due(x, "deal of 0", x.deal(0, 0, 10000), Long.MIN_VALUE, 2);
        due(x, "deal of 10,000", x.deal(0, 10000, 10000), Long.MIN_VALUE, 2);
        due(x, "deal of -10,000", x.deal(0, -10000, 10000), Long.MIN_VALUE, 2);
        due(x, "deal at 0", x.deal(0, 1, 0), Long.MIN_VALUE, 2);
        due(x, "deal at 100,000", x.deal(0, 1, 100000), Long.MIN_VALUE, 2);
        due(x, "deal of fewer than none", x.deal(3, -1, 10000), Long.MIN_VALUE, 3);
        due(x, "deal of all", x.deal(3, 9999, 99999), 9999L * 99999L, 0);
        due("CASH below 0", x.cash(), 5000000 - 9999L * 99999L);
        due(x, "deal of one more", x.deal(3, 1, 1), Long.MIN_VALUE, 3);
        due(x, "holding all", x.holding(3), 9999, 0);
        due(x, "deal of all back", x.deal(3, -9999, 99999), -9999L * 99999L, 0);
        due("CASH as before", x.cash(), 5000000);
        due("days to 20240626", x.go(177), 0);
        due("now", x.now(), 20240626);
        // ACCRUED is -1/15: n times 100 times it is -6 and 2/3 for one, 20 for -3, 6 and 2/3 for -1.
        due(x, "deal when EX", x.deal(0, 1, 10000), 9993, 0);
        due(x, "deal of three more", x.deal(0, 3, 10000), 29980, 0);
        due(x, "deal of three fewer", x.deal(0, -3, 10000), -29980, 0);
        due(x, "deal of one fewer", x.deal(0, -1, 10000), -9994, 0);
        due("none held", x.holding(0), 0);
        due("CASH by all of them", x.cash(), 5000000 - 9993 + 9994);
    }

    private static void daysGoBy() {
        BondCalendars x = full();
        due(x, "go 0", x.go(0), Long.MIN_VALUE, 2);
        due(x, "go 4,001", x.go(4001), Long.MIN_VALUE, 2);
        due(x, "income 0", x.income(0), Long.MIN_VALUE, 2);
        due(x, "income 4,001", x.income(4001), Long.MIN_VALUE, 2);
        due(x, "go 14", x.go(14), 0, 0);
        due("now", x.now(), 20240115);
        due("deal", x.deal(0, 10, 9900), 99000);
        due("go to the day ahead of EX", x.go(162), 0);
        due("nobody is ENTITLED yet", x.period(0, 0, 6), 0);
        due("go to EX", x.go(1), 0);
        due("ENTITLED", x.period(0, 0, 6), 10);
        due("deal on EX", x.deal(0, 5, 10000), 50000 - 34);
        due("ENTITLED stays", x.period(0, 0, 6), 10);
        due(x, "income to the day ahead of PAY", x.income(5), 0, 0);
        due(x, "income to PAY", x.income(6), 2750, 0);
        due("income leaves NOW", x.now(), 20240626);
        due("income leaves ENTITLED", x.period(0, 1, 6), 0);
        long before = x.cash();
        due(x, "income far on", x.income(1000), 2750 + 4 * 4500 + 15 * 10000, 0);
        due("and HOLDINGS stay", x.holding(0), 15);
        due("and CASH stays", x.cash(), before);
        due(x, "go to PAY", x.go(6), 2750, 0);
        due("CASH then", x.cash(), before + 2750);
        due("who is ENTITLED stays so", x.period(0, 0, 6), 10);
        due("go to the last but one", x.go(600), 3 * 4500);
        due("now", x.now(), 20260222);
        due("ENTITLED to the second", x.period(0, 1, 6), 15);
        due("go to the end", x.go(400), 4500 + 15 * 10000);
        due("none is held any more", x.holding(0), 0);
        due("ENTITLED to the last", x.period(0, 4, 6), 15);
        due("CASH at the end", x.cash(), before + 2750 + 4 * 4500 + 150000);
        lowerWholes();
        boundsOfNow();
    }

    private static void lowerWholes() {
        BondCalendars x = new BondCalendars();
        // A COUPON of 4.5 times 236/183: 3 held get 1740.98.. hundredths.
        due("desk", tell(x, DESK + ";" + BOND_1), 1);
        due("deal", x.deal(0, 3, 10000) - 30000, 3 * 100 * 45 * 47 / 3660);
        due("the lower WHOLE of a COUPON", x.go(430), 1740);
        due("desk from EX", tell(x, "desk from 20240630 cash 0;bond 100 per 2 euro mature 20241230 issue 20240101"), 1);
        due("deal on END", x.deal(0, 7, 10000), 70000);
        due("without EX gone by nobody is ENTITLED", x.go(2), 0);
        due("so it stays", x.period(0, 0, 6), 0);
        due("EX and PAY on one day: ENTITLED first", x.income(181), 350 + 70000);
        due("not on the day ahead", x.income(180), 0);
        due("desk of the last two on one PAY",
                tell(x, "desk from 20240601 cash 0;bond 360 per 1 money mature 20240630 last 20240629 issue 20230629 ex 1"), 1);
        due("deal", x.deal(0, 100, 10000) > 1000000 ? 1 : 0, 1);
        due("both, PERIOD by PERIOD, and 100 for each", x.go(30), 36600 + 100 + 1000000);
        due("none held", x.holding(0), 0);
    }

    private static void boundsOfNow() {
        BondCalendars x = new BondCalendars();
        due("late desk", tell(x, "desk from 20791230 cash 0;bond 100 per 2 euro mature 20791231 issue 20790101"), 1);
        due(x, "go beyond the last DATE", x.go(2), Long.MIN_VALUE, 2);
        due(x, "income beyond the last DATE", x.income(2), Long.MIN_VALUE, 2);
        due("deal", x.deal(0, 1, 1) > 1 ? 1 : 0, 1);
        due("PAY behind the last DATE, a Sunday", x.period(0, 1, 4), 20800101);
        due(x, "go to the last DATE", x.go(1), 0, 0);
        due("now", x.now(), 20791231);
        due("held as it never is paid", x.holding(0), 1);
        due("ENTITLED all the same", x.period(0, 1, 6), 1);
        due(x, "go on", x.go(1), Long.MIN_VALUE, 2);
        due(x, "go on far", x.go(Integer.MAX_VALUE), Long.MIN_VALUE, 2);
        due("a long go", tell(x, "desk from 20000101 cash 0"), 0);
        due(x, "go 4,000", x.go(4000), 0, 0);
        due("now", x.now(), 20101214);
    }

    private static void keepAndBack() {
        BondCalendars x = full();
        due(x, "back without keep", x.back() ? 1 : 0, 0, 1);
        due("size 4", x.size(4), 0);
        due("go", x.go(14), 0);
        x.deal(0, 10, 10000);
        due(x, "keep", x.keep() ? 1 : 0, 1, 0);
        due("size 4 then", x.size(4), 1);
        long cash = x.cash();
        for (int i = 0; i < 2; i++) {
            due("go on", x.go(200), 2750);
            due("ENTITLED", x.period(0, 0, 6), 10);
            due("sell", x.deal(0, -10, 10000) < 0 ? 1 : 0, 1);
            due(x, "back", x.back() ? 1 : 0, 1, 0);
            due("NOW as kept", x.now(), 20240115);
            due("CASH as kept", x.cash(), cash);
            due("HOLDINGS as kept", x.holding(0), 10);
            due("ENTITLED as kept", x.period(0, 0, 6), 0);
        }
        x.go(1);
        due("keep anew", x.keep() ? 1 : 0, 1);
        x.go(1);
        due("back to that", x.back() ? 1 : 0, 1);
        due("NOW as kept anew", x.now(), 20240116);
        due("a new DESK", tell(x, FULL), 4);
        due(x, "nothing is kept then", x.back() ? 1 : 0, 0, 1);
    }

    // ---- promises 42 to 44

    private static void told() {
        BondCalendars x = full();
        due("holiday 0", x.holiday(0), 20240102);
        due("holiday 1", x.holiday(1), 20240701);
        for (int i : new int[] {2, -1, 10, Integer.MAX_VALUE, Integer.MIN_VALUE}) {
            int thrown = 0;
            try {
                x.holiday(i);
            } catch (NoSuchElementException e) {
                thrown = 1;
            }
            due("holiday " + i + " throws", thrown, 1);
        }
        due("trouble behind holiday, which has no number", x.trouble(), 0);
        due("size 0", x.size(0), 4);
        due("size 1", x.size(1), 3);
        due("size 2", x.size(2), 2);
        due("size 3", x.size(3), 0);
        x.feed(0, 0, 0, 0, 0);
        due("size 3 then", x.size(3), 20);
        due("size 4", x.size(4), 0);
        due("size 5", x.size(5), -1);
        due("size -1", x.size(-1), -1);
        due("trouble behind size, which has no number", x.trouble(), 0);
        x.weekday(0);
        due("trouble", x.trouble(), 2);
        due("trouble stays", x.trouble(), 2);
        x.fault();
        x.where();
        x.size(0);
        x.feed(0, 0, 0, 0, 0);
        due("trouble behind calls without a number", x.trouble(), 2);
        x.weekday(20000101);
        due("trouble is over", x.trouble(), 0);
    }
}
