import java.util.NoSuchElementException;

/** A desk for bonds: calendars, accrued interest, prices and yields, holdings and cash. */
public final class BondCalendars {
    public static final int NONE = -1;

    private static final int NO_SUCH = 1;
    private static final int BAD_NUMBER = 2;
    private static final int NO_ROOM = 3;
    private static final int FAULTY = 4;
    private static final int NOT_SO = 5;

    private static final int FED_BYTES = 20;
    private static final int MOST_MONTHS = 120;
    private static final int MOST_BUSINESS_DAYS = 60;
    private static final int LEAST_POINTS = -2000;
    private static final int MOST_POINTS = 10000;
    private static final int MOST_FLAT_POINTS = 2000;
    private static final int MOST_PRICE = 99999;
    private static final int MOST_NARROWED = 60;
    private static final int CHEAPEST_NARROWED = 40;
    private static final int MOST_HELD = 9999;
    private static final int MOST_DAYS_GONE = 4000;
    private static final int NOTHING_FITS = -2;

    private final Reader reader = new Reader();
    private final Settle settle = new Settle();
    private final Bracket bracket = new Bracket();
    private final Ratio ratio = new Ratio();
    private final Sheet sheet = new Sheet();
    private final Book book = new Book();
    private final Book kept = new Book();
    private final Book trial = new Book();
    private Desk live = new Desk();
    private Desk draft = new Desk();
    private boolean hasDesk = false;
    private boolean hasKept = false;
    private int refusal = 0;
    private int latestFault = 0;
    private int latestPlace = NONE;

    public BondCalendars() {
    }

    // ---- the desk

    public int feed(int a, int b, int c, int d, int e) {
        Tape tape = reader.tape;
        if (tape.length > Tape.ROOM - FED_BYTES) {
            return NONE;
        }
        tape.append(a);
        tape.append(b);
        tape.append(c);
        tape.append(d);
        tape.append(e);
        return tape.length;
    }

    public int desk(int n) {
        if (n < 0 || n > reader.tape.length) {
            return refuse(BAD_NUMBER);
        }
        reader.read(n, draft);
        reader.tape.length = 0;
        latestFault = reader.faultNumber;
        latestPlace = reader.faultPlace;
        if (latestFault != 0) {
            return refuse(FAULTY);
        }
        draft.layOut();
        Desk former = live;
        live = draft;
        draft = former;
        hasDesk = true;
        hasKept = false;
        book.open(live.startDay, live.startCash);
        refusal = 0;
        return live.bondCount;
    }

    public int fault() {
        return latestFault;
    }

    public int where() {
        return refusal == FAULTY ? latestPlace : NONE;
    }

    // ---- dates (with a DESK or without)

    public int days(int d, int e) {
        if (!Dates.isDate(d) || !Dates.isDate(e)) {
            refusal = BAD_NUMBER;
            return Integer.MIN_VALUE;
        }
        refusal = 0;
        return Dates.dayOf(e) - Dates.dayOf(d);
    }

    public int weekday(int d) {
        if (!Dates.isDate(d)) {
            return refuse(BAD_NUMBER);
        }
        refusal = 0;
        return Dates.weekdayOf(Dates.dayOf(d));
    }

    public int months(int d, int n, boolean eom) {
        if (!Dates.isDate(d) || n < -MOST_MONTHS || n > MOST_MONTHS) {
            return refuse(BAD_NUMBER);
        }
        refusal = 0;
        return Dates.monthsFrom(d, n, eom);
    }

    public int business(int d) {
        if (!Dates.isDate(d)) {
            return refuse(BAD_NUMBER);
        }
        refusal = 0;
        return live.holidays.isBusinessDay(Dates.dayOf(d)) ? 1 : 0;
    }

    public int businessFrom(int d, int n) {
        if (!Dates.isDate(d) || n < -MOST_BUSINESS_DAYS || n > MOST_BUSINESS_DAYS) {
            return refuse(BAD_NUMBER);
        }
        refusal = 0;
        return Dates.numberOf(live.holidays.businessDaysFrom(Dates.dayOf(d), n));
    }

    public long counted(int rule, int d, int e, boolean lower) {
        if (rule < Bond.THIRTY || rule > Bond.FIXED) {
            return refuse(NO_SUCH);
        }
        if (!Dates.isDate(d) || !Dates.isDate(e) || e < d) {
            return refuse(BAD_NUMBER);
        }
        refusal = 0;
        ratio.setCounted(rule, Dates.dayOf(d), Dates.dayOf(e));
        return ratio.part(lower);
    }

    // ---- bonds, periods

    public int bond(int b, int what) {
        Bond of = bondOf(b);
        if (of == null || what < 0 || what > 8) {
            return refuse(NO_SUCH);
        }
        refusal = 0;
        switch (what) {
            case 0: return of.rate;
            case 1: return of.frequency;
            case 2: return of.rule;
            case 3: return Dates.numberOf(of.matureDay);
            case 4: return Dates.numberOf(of.anchorDay);
            case 5: return Dates.numberOf(of.issueDay);
            case 6: return of.monthEnds ? 1 : 0;
            case 7: return of.exDays;
            default: return of.periods;
        }
    }

    public int grid(int b, int k) {
        Bond of = bondOf(b);
        if (of == null) {
            return refuse(NO_SUCH);
        }
        int at = k + Bond.ANCHOR_AT;
        if (k < -Bond.ANCHOR_AT || k > Bond.STEPS_LATER || at >= of.gridDays.length) {
            return refuse(BAD_NUMBER);
        }
        refusal = 0;
        return Dates.numberOf(of.gridDays[at]);
    }

    public int period(int b, int k, int what) {
        Bond of = bondOf(b);
        if (of == null || !of.hasPeriod(k) || what < 0 || what > 6) {
            return refuse(NO_SUCH);
        }
        refusal = 0;
        switch (what) {
            case 0: return Dates.numberOf(of.startOf(k));
            case 1: return Dates.numberOf(of.endDays[k]);
            case 2: return of.endDays[k] - of.startOf(k);
            case 3: return Dates.numberOf(of.exFrom[k]);
            case 4: return Dates.numberOf(of.payDays[k]);
            case 5: return of.isWholeStep(k) ? 1 : 0;
            default: return book.entitledTo(b, k);
        }
    }

    public long fraction(int b, int k, boolean lower) {
        Bond of = bondOf(b);
        if (of == null || !of.hasPeriod(k)) {
            return refuse(NO_SUCH);
        }
        refusal = 0;
        of.measurePeriod(k, ratio);
        return ratio.part(lower);
    }

    public long coupon(int b, int k, boolean lower) {
        Bond of = bondOf(b);
        if (of == null || !of.hasPeriod(k)) {
            return refuse(NO_SUCH);
        }
        refusal = 0;
        of.measureCoupon(k, ratio);
        return ratio.part(lower);
    }

    public int line(int b, int k) {
        Bond of = bondOf(b);
        if (of == null || !of.hasPeriod(k)) {
            return refuse(NO_SUCH);
        }
        refusal = 0;
        writeLine(of, k);
        return sheet.length;
    }

    public int sign(int b, int k, int i) {
        Bond of = bondOf(b);
        if (of == null || !of.hasPeriod(k)) {
            return refuse(NO_SUCH);
        }
        writeLine(of, k);
        if (i < 0 || i >= sheet.length || i >= sheet.signs.length) {
            return refuse(NO_SUCH);
        }
        refusal = 0;
        return sheet.signs[i];
    }

    // ---- settles

    public int current(int b, int s) {
        if (!openSettle(b, s, true)) {
            return NONE;
        }
        return settle.current;
    }

    public int isEx(int b, int s) {
        if (!openSettle(b, s, true)) {
            return NONE;
        }
        return settle.ex ? 1 : 0;
    }

    public long accrued(int b, int s, boolean lower) {
        if (!openSettle(b, s, true)) {
            return Long.MIN_VALUE;
        }
        return settle.accruedRatio.part(lower);
    }

    public long rest(int b, int s, boolean lower) {
        if (!openSettle(b, s, true)) {
            return NONE;
        }
        return settle.restRatio.part(lower);
    }

    public long dirty(int b, int s, int z) {
        if (!openSettle(b, s, arePoints(z))) {
            return Long.MIN_VALUE;
        }
        return bitsOf(settle.dirtyAt(yieldOf(z)));
    }

    public long clean(int b, int s, int z) {
        if (!openSettle(b, s, arePoints(z))) {
            return Long.MIN_VALUE;
        }
        return bitsOf(settle.cleanAt(yieldOf(z)));
    }

    public long risk(int b, int s, int z) {
        if (!openSettle(b, s, z > LEAST_POINTS && z < MOST_POINTS)) {
            return Long.MIN_VALUE;
        }
        return bitsOf((settle.dirtyAt(yieldOf(z - 1)) - settle.dirtyAt(yieldOf(z + 1))) / 2.0);
    }

    public long bracket(int b, int s, int price, int n, boolean high) {
        if (!openSettle(b, s, isPrice(price) && n >= 0 && n <= MOST_NARROWED)) {
            return Long.MIN_VALUE;
        }
        if (!bracket.open(settle, price)) {
            refusal = NOT_SO;
            return Long.MIN_VALUE;
        }
        bracket.narrowTimes(n);
        return bitsOf(high ? bracket.high : bracket.low);
    }

    public int narrows(int b, int s, int price) {
        if (!openSettle(b, s, isPrice(price))) {
            return NONE;
        }
        if (!bracket.open(settle, price)) {
            return refuse(NOT_SO);
        }
        for (int n = 0; n <= MOST_NARROWED; n++) {
            if (bracket.high - bracket.low <= 0.000001) {
                return n;
            }
            bracket.narrow(n);
        }
        return NOTHING_FITS;
    }

    public int pointsAt(int b, int s, int price) {
        if (!openSettle(b, s, isPrice(price))) {
            return Integer.MIN_VALUE;
        }
        double asked = price / 100.0;
        if (settle.cleanAt(yieldOf(LEAST_POINTS)) < asked) {
            return Integer.MIN_VALUE;
        }
        // CLEAN never rises with z, not even by rounding: each step of DIRTY rounds monotonically.
        int fits = LEAST_POINTS;
        int beyond = MOST_POINTS + 1;
        for (int i = 0; i < 32 && beyond - fits > 1; i++) {
            int middle = fits + (beyond - fits) / 2;
            if (settle.cleanAt(yieldOf(middle)) >= asked) {
                fits = middle;
            } else {
                beyond = middle;
            }
        }
        return fits;
    }

    // ---- quotes

    public int quote(int i, int what) {
        if (!hasDesk || !live.hasQuote(i) || what < 0 || what > 2) {
            return refuse(NO_SUCH);
        }
        refusal = 0;
        switch (what) {
            case 0: return live.quotedBonds[i];
            case 1: return Dates.numberOf(live.quotedDays[i]);
            default: return live.quotedPrices[i];
        }
    }

    public long off(int z) {
        if (!hasDesk) {
            return refuseLong(NO_SUCH);
        }
        if (z < 0 || z > MOST_FLAT_POINTS) {
            return refuseLong(BAD_NUMBER);
        }
        refusal = 0;
        return bitsOf(live.distanceAt(yieldOf(z)));
    }

    public int flat() {
        if (!hasDesk) {
            return refuse(NO_SUCH);
        }
        refusal = 0;
        if (live.quoteCount == 0) {
            return NOTHING_FITS;
        }
        // Quotes stay as they are while the DESK does, so one search for each DESK is enough.
        if (live.flatPoints == NONE) {
            live.flatPoints = nearestPoints();
        }
        return live.flatPoints;
    }

    public int cheapest() {
        if (!hasDesk) {
            return refuse(NO_SUCH);
        }
        refusal = 0;
        int best = NOTHING_FITS;
        double bestLow = 0.0;
        for (int i = 0; i < live.quoteCount && i < live.quoted.length; i++) {
            if (!bracket.open(live.quoted[i], live.quotedPrices[i])) {
                continue;
            }
            bracket.narrowTimes(CHEAPEST_NARROWED);
            if (best == NOTHING_FITS || bracket.low > bestLow) {
                best = i;
                bestLow = bracket.low;
            }
        }
        return best;
    }

    // ---- holdings

    public int now() {
        if (!hasDesk) {
            return refuse(NO_SUCH);
        }
        refusal = 0;
        return Dates.numberOf(book.today);
    }

    public long cash() {
        if (!hasDesk) {
            return refuseLong(NO_SUCH);
        }
        refusal = 0;
        return book.money;
    }

    public int holding(int b) {
        if (bondOf(b) == null) {
            return refuse(NO_SUCH);
        }
        refusal = 0;
        return book.held[b];
    }

    public long worth(int z) {
        if (!hasDesk) {
            return refuseLong(NO_SUCH);
        }
        if (!arePoints(z)) {
            return refuseLong(BAD_NUMBER);
        }
        refusal = 0;
        double sum = book.money / 100.0;
        for (int b = 0; b < live.bondCount && b < live.bonds.length; b++) {
            if (live.bonds[b].isSettle(book.today)) {
                settle.open(live.bonds[b], book.today);
                sum = sum + book.held[b] * settle.dirtyAt(yieldOf(z));
            }
        }
        return bitsOf(sum);
    }

    public long deal(int b, int n, int price) {
        Bond of = bondOf(b);
        if (of == null) {
            return refuseLong(NO_SUCH);
        }
        if (n < -MOST_HELD || n > MOST_HELD || n == 0 || !isPrice(price)) {
            return refuseLong(BAD_NUMBER);
        }
        if (!of.isSettle(book.today)) {
            return refuseLong(NOT_SO);
        }
        int then = book.held[b] + n;
        if (then < 0 || then > MOST_HELD) {
            return refuseLong(NO_ROOM);
        }
        refusal = 0;
        settle.open(of, book.today);
        long paid = (long) n * price + settle.accruedRatio.floorTimes(n * 100L);
        book.held[b] = then;
        book.money -= paid;
        return paid;
    }

    public long go(int n) {
        if (!mayGo(n)) {
            return Long.MIN_VALUE;
        }
        return book.passDays(n, live, ratio);
    }

    public long income(int n) {
        if (!mayGo(n)) {
            return Long.MIN_VALUE;
        }
        trial.copyFrom(book);
        return trial.passDays(n, live, ratio);
    }

    public boolean keep() {
        if (!hasDesk) {
            refusal = NO_SUCH;
            return false;
        }
        refusal = 0;
        kept.copyFrom(book);
        hasKept = true;
        return true;
    }

    public boolean back() {
        if (!hasDesk || !hasKept) {
            refusal = NO_SUCH;
            return false;
        }
        refusal = 0;
        book.copyFrom(kept);
        return true;
    }

    // ---- what is told

    public int holiday(int i) throws NoSuchElementException {
        if (i < 0 || i >= live.holidays.count || i >= live.holidays.list.length) {
            throw new NoSuchElementException("no such holiday");
        }
        return Dates.numberOf(live.holidays.list[i]);
    }

    public int size(int what) {
        switch (what) {
            case 0: return live.bondCount;
            case 1: return live.quoteCount;
            case 2: return live.holidays.count;
            case 3: return reader.tape.length;
            case 4: return hasKept ? 1 : 0;
            default: return NONE;
        }
    }

    public int trouble() {
        return refusal;
    }

    // ---- helpers of the face

    private int refuse(int why) {
        refusal = why;
        return NONE;
    }

    private long refuseLong(int why) {
        refusal = why;
        return Long.MIN_VALUE;
    }

    private Bond bondOf(int b) {
        if (!hasDesk || b < 0 || b >= live.bondCount || b >= live.bonds.length) {
            return null;
        }
        return live.bonds[b];
    }

    private boolean openSettle(int b, int s, boolean inBounds) {
        Bond of = bondOf(b);
        if (of == null) {
            refusal = NO_SUCH;
            return false;
        }
        if (!Dates.isDate(s) || !inBounds) {
            refusal = BAD_NUMBER;
            return false;
        }
        int day = Dates.dayOf(s);
        if (!of.isSettle(day)) {
            refusal = NOT_SO;
            return false;
        }
        refusal = 0;
        settle.open(of, day);
        return true;
    }

    private boolean mayGo(int n) {
        if (!hasDesk) {
            refusal = NO_SUCH;
            return false;
        }
        if (n < 1 || n > MOST_DAYS_GONE || book.today + n > Dates.dayOf(Dates.LATEST)) {
            refusal = BAD_NUMBER;
            return false;
        }
        refusal = 0;
        return true;
    }

    private int nearestPoints() {
        int best = 0;
        double least = live.distanceAt(yieldOf(0));
        for (int z = 1; z <= MOST_FLAT_POINTS; z++) {
            double distance = live.distanceAt(yieldOf(z));
            if (distance < least) {
                least = distance;
                best = z;
            }
        }
        return best;
    }

    private void writeLine(Bond of, int k) {
        of.measureCoupon(k, ratio);
        int date = Dates.numberOf(of.endDays[k]);
        sheet.length = 0;
        sheet.putNumber(date / 10000, 4);
        sheet.putSign('-');
        sheet.putNumber(date / 100 % 100, 2);
        sheet.putSign('-');
        sheet.putNumber(date % 100, 2);
        sheet.putSign(' ');
        sheet.putNumber(ratio.upper, 1);
        sheet.putSign('/');
        sheet.putNumber(ratio.lower, 1);
    }

    private static boolean arePoints(int z) {
        return z >= LEAST_POINTS && z <= MOST_POINTS;
    }

    private static boolean isPrice(int price) {
        return price >= 1 && price <= MOST_PRICE;
    }

    private static double yieldOf(int z) {
        return z / 10000.0;
    }

    /** The 64 bits of a double, by scaling alone: the language's rules leave no library call for it. */
    private static long bitsOf(double x) {
        if (x == 0.0) {
            return 0L;
        }
        double scaled = x < 0.0 ? -x : x;
        long exponent = 1023;
        for (int i = 0; i < 1100 && scaled >= 2.0; i++) {
            scaled = scaled / 2.0;
            exponent++;
        }
        for (int i = 0; i < 1100 && scaled < 1.0; i++) {
            scaled = scaled * 2.0;
            exponent--;
        }
        long mantissa = (long) ((scaled - 1.0) * 4503599627370496.0);
        long signBit = x < 0.0 ? Long.MIN_VALUE : 0L;
        return signBit | (exponent << 52) | mantissa;
    }

    /** Dates as numbers (year, month, day in decimal places) and as days behind 19800101. */
    private static final class Dates {
        static final int EARLIEST = 19800101;
        static final int LATEST = 20791231;
        private static final int DAYS_AHEAD = 723120;
        private static final int DAYS_OF_ERA = 146097;

        static boolean isDate(int number) {
            if (number < EARLIEST || number > LATEST) {
                return false;
            }
            int month = number / 100 % 100;
            int day = number % 100;
            return month >= 1 && month <= 12 && day >= 1 && day <= lengthOfMonth(number / 10000, month);
        }

        static int lengthOfMonth(int year, int month) {
            if (month == 2) {
                boolean leap = year % 4 == 0 && (year % 100 != 0 || year % 400 == 0);
                return leap ? 29 : 28;
            }
            return month == 4 || month == 6 || month == 9 || month == 11 ? 30 : 31;
        }

        // Years begin in March here, so that a leap day ends its year.
        static int dayOf(int number) {
            int month = number / 100 % 100;
            int year = month <= 2 ? number / 10000 - 1 : number / 10000;
            int monthFromMarch = month <= 2 ? month + 9 : month - 3;
            int ofYear = (153 * monthFromMarch + 2) / 5 + number % 100 - 1;
            return year * 365 + year / 4 - year / 100 + year / 400 + ofYear - DAYS_AHEAD;
        }

        static int numberOf(int day) {
            int all = day + DAYS_AHEAD;
            int era = all / DAYS_OF_ERA;
            int ofEra = all - era * DAYS_OF_ERA;
            int yearOfEra = (ofEra - ofEra / 1460 + ofEra / 36524 - ofEra / 146096) / 365;
            int ofYear = ofEra - (365 * yearOfEra + yearOfEra / 4 - yearOfEra / 100);
            int monthFromMarch = (5 * ofYear + 2) / 153;
            int dayOfMonth = ofYear - (153 * monthFromMarch + 2) / 5 + 1;
            int month = monthFromMarch < 10 ? monthFromMarch + 3 : monthFromMarch - 9;
            int year = era * 400 + yearOfEra + (month <= 2 ? 1 : 0);
            return year * 10000 + month * 100 + dayOfMonth;
        }

        static int weekdayOf(int day) {
            return Math.floorMod(day + 1, 7);
        }

        static int monthsFrom(int number, int n, boolean monthEnds) {
            int year = number / 10000;
            int month = number / 100 % 100;
            int day = number % 100;
            int allMonths = year * 12 + month - 1 + n;
            int toYear = allMonths / 12;
            int toMonth = allMonths % 12 + 1;
            int last = lengthOfMonth(toYear, toMonth);
            boolean toLast = day > last || monthEnds && day == lengthOfMonth(year, month);
            return toYear * 10000 + toMonth * 100 + (toLast ? last : day);
        }
    }

    /** A number in lowest terms; its lower part is never below 1. */
    private static final class Ratio {
        long upper = 0;
        long lower = 1;

        void set(long newUpper, long newLower) {
            long common = commonDivisor(newUpper < 0 ? -newUpper : newUpper, newLower);
            if (common < 1) {
                upper = 0;
                lower = 1;
                return;
            }
            upper = newUpper / common;
            lower = newLower / common;
        }

        void add(long otherUpper, long otherLower) {
            long common = commonDivisor(lower, otherLower);
            if (common < 1) {
                return;
            }
            long scale = otherLower / common;
            set(upper * scale + otherUpper * (lower / common), lower * scale);
        }

        void multiply(long byUpper, long byLower) {
            set(upper * byUpper, lower * byLower);
        }

        /** FRACTION between two days by a rule that needs no GRID. */
        void setCounted(int rule, int from, int to) {
            if (rule == Bond.MONEY) {
                set(to - from, 360);
            } else if (rule == Bond.FIXED) {
                set(to - from, 365);
            } else {
                set(thirtyDays(rule, Dates.numberOf(from), Dates.numberOf(to)), 360);
            }
        }

        private static int thirtyDays(int rule, int from, int to) {
            int fromDay = Math.min(from % 100, 30);
            int toDay = to % 100;
            if (toDay == 31 && (rule == Bond.EURO || fromDay == 30)) {
                toDay = 30;
            }
            int years = to / 10000 - from / 10000;
            int months = to / 100 % 100 - from / 100 % 100;
            return 360 * years + 30 * months + toDay - fromDay;
        }

        long part(boolean wantsLower) {
            return wantsLower ? lower : upper;
        }

        double value() {
            return (double) upper / (double) lower;
        }

        long floorTimes(long factor) {
            return lower < 1 ? 0 : Math.floorDiv(upper * factor, lower);
        }

        private static long commonDivisor(long a, long b) {
            long x = a;
            long y = b;
            for (int i = 0; i < 200 && y != 0; i++) {
                long left = x % y;
                x = y;
                y = left;
            }
            return x;
        }
    }

    /** The HOLIDAYS of a DESK, in order, and the business days between them. */
    private static final class Holidays {
        static final int ROOM = 10;

        final int[] list = new int[ROOM];
        int count = 0;

        boolean contains(int day) {
            for (int i = 0; i < count && i < list.length; i++) {
                if (list[i] == day) {
                    return true;
                }
            }
            return false;
        }

        void insert(int day) {
            if (count >= list.length) {
                return;
            }
            int at = count;
            while (at > 0 && list[at - 1] > day) {
                list[at] = list[at - 1];
                at--;
            }
            list[at] = day;
            count++;
        }

        boolean isBusinessDay(int day) {
            return Dates.weekdayOf(day) < 5 && !contains(day);
        }

        int businessDaysFrom(int day, int n) {
            int step = n < 0 ? -1 : 1;
            int left = n < 0 ? -n : n;
            int at = day;
            for (int i = 0; i < 1000 && left > 0; i++) {
                at += step;
                if (isBusinessDay(at)) {
                    left--;
                }
            }
            return at;
        }

        int businessDayNotBefore(int day) {
            int at = day;
            for (int i = 0; i < 1000 && !isBusinessDay(at); i++) {
                at++;
            }
            return at;
        }
    }

    /** A bond's terms and its calendar; all dates are days behind 19800101. */
    private static final class Bond {
        static final int THIRTY = 0;
        static final int EURO = 1;
        static final int MONEY = 2;
        static final int FIXED = 3;
        static final int ACTUAL = 4;
        static final int ANCHOR_AT = 90;
        static final int STEPS_LATER = 3;
        static final int MOST_STEPS = 80;
        static final int MOST_PERIODS = MOST_STEPS + 1;

        int rate = 0;
        int frequency = 1;
        int rule = THIRTY;
        boolean monthEnds = false;
        int matureDay = 0;
        int anchorDay = 0;
        int issueDay = 0;
        int exDays = 0;
        int firstAt = ANCHOR_AT;
        int periods = 0;
        final int[] gridDays = new int[ANCHOR_AT + STEPS_LATER + 1];
        final int[] endDays = new int[MOST_PERIODS];
        final int[] exFrom = new int[MOST_PERIODS];
        final int[] payDays = new int[MOST_PERIODS];
        final double[] fractions = new double[MOST_PERIODS];
        final double[] coupons = new double[MOST_PERIODS];

        int stepMonths() {
            return frequency < 1 ? 12 : 12 / frequency;
        }

        void layGrid() {
            int anchor = Dates.numberOf(anchorDay);
            for (int at = 0; at < gridDays.length; at++) {
                int months = (at - ANCHOR_AT) * stepMonths();
                gridDays[at] = Dates.dayOf(Dates.monthsFrom(anchor, months, monthEnds));
            }
        }

        /** How many GRID DATES up to the ANCHOR are later than a day (as far as the row goes). */
        int stepsBehind(int day) {
            int steps = 0;
            for (int at = ANCHOR_AT; at >= 0 && gridDays[at] > day; at--) {
                steps++;
            }
            return steps;
        }

        /** Where a day stands in the GRID up to the ANCHOR, or NONE. */
        int gridPlaceOf(int day) {
            for (int at = 0; at <= ANCHOR_AT && at < gridDays.length; at++) {
                if (gridDays[at] == day) {
                    return at;
                }
            }
            return NONE;
        }

        void layPeriods(Holidays holidays, Ratio scratch) {
            periods = 0;
            for (int at = firstAt; at >= 0 && at <= ANCHOR_AT; at++) {
                addPeriod(gridDays[at]);
            }
            if (matureDay > anchorDay) {
                addPeriod(matureDay);
            }
            for (int k = 0; k < periods; k++) {
                exFrom[k] = holidays.businessDaysFrom(endDays[k], -exDays);
                payDays[k] = holidays.businessDayNotBefore(endDays[k]);
                measurePeriod(k, scratch);
                fractions[k] = scratch.value();
                scratch.multiply(rate, 100);
                coupons[k] = scratch.value();
            }
        }

        private void addPeriod(int endDay) {
            if (periods < endDays.length) {
                endDays[periods] = endDay;
                periods++;
            }
        }

        boolean hasPeriod(int k) {
            return k >= 0 && k < periods && k < endDays.length;
        }

        int startOf(int k) {
            return k > 0 && k <= endDays.length ? endDays[k - 1] : issueDay;
        }

        boolean isSettle(int day) {
            return day >= issueDay && day < matureDay;
        }

        int periodAt(int day) {
            int k = 0;
            while (k < periods - 1 && endDays[k] <= day) {
                k++;
            }
            return k;
        }

        boolean isWholeStep(int k) {
            int start = startOf(k);
            for (int at = 0; at < gridDays.length - 1; at++) {
                if (gridDays[at] == start) {
                    return hasPeriod(k) && gridDays[at + 1] == endDays[k];
                }
            }
            return false;
        }

        /** FRACTION from one day to another by this bond's rule. */
        void measure(int from, int to, Ratio into) {
            if (rule != ACTUAL) {
                into.setCounted(rule, from, to);
                return;
            }
            into.set(0, 1);
            for (int at = 0; at < gridDays.length - 1 && gridDays[at] < to; at++) {
                int shared = Math.min(to, gridDays[at + 1]) - Math.max(from, gridDays[at]);
                if (shared > 0) {
                    into.add(shared, frequency * (gridDays[at + 1] - gridDays[at]));
                }
            }
        }

        void measurePeriod(int k, Ratio into) {
            if (hasPeriod(k)) {
                measure(startOf(k), endDays[k], into);
            }
        }

        void measureCoupon(int k, Ratio into) {
            if (hasPeriod(k)) {
                measure(startOf(k), endDays[k], into);
                into.multiply(rate, 100);
            }
        }
    }

    /** What a text told: bonds, quotes, HOLIDAYS, and where NOW and CASH begin. */
    private static final class Desk {
        static final int BOND_ROOM = 4;
        static final int QUOTE_ROOM = 6;

        int startDay = 0;
        int startCash = 0;
        final Holidays holidays = new Holidays();
        final Bond[] bonds = new Bond[BOND_ROOM];
        int bondCount = 0;
        final Settle[] quoted = new Settle[QUOTE_ROOM];
        final int[] quotedBonds = new int[QUOTE_ROOM];
        final int[] quotedDays = new int[QUOTE_ROOM];
        final int[] quotedPrices = new int[QUOTE_ROOM];
        int quoteCount = 0;
        int flatPoints = NONE;
        private final Ratio scratch = new Ratio();

        Desk() {
            for (int b = 0; b < BOND_ROOM; b++) {
                bonds[b] = new Bond();
            }
            for (int i = 0; i < QUOTE_ROOM; i++) {
                quoted[i] = new Settle();
            }
        }

        void clear() {
            holidays.count = 0;
            bondCount = 0;
            quoteCount = 0;
            flatPoints = NONE;
        }

        boolean hasQuote(int i) {
            return i >= 0 && i < quoteCount && i < QUOTE_ROOM;
        }

        /** Calendars wait for the whole text, as HOLIDAYS may be told behind the bonds. */
        void layOut() {
            for (int b = 0; b < bondCount && b < bonds.length; b++) {
                bonds[b].layPeriods(holidays, scratch);
            }
            for (int i = 0; i < quoteCount && i < quoted.length; i++) {
                int b = quotedBonds[i];
                if (b >= 0 && b < bonds.length) {
                    quoted[i].open(bonds[b], quotedDays[i]);
                }
            }
        }

        double distanceAt(double y) {
            double sum = 0.0;
            for (int i = 0; i < quoteCount && i < quoted.length; i++) {
                double price = quotedPrices[i] / 100.0;
                double clean = quoted[i].cleanAt(y);
                sum = sum + (clean >= price ? clean - price : price - clean);
            }
            return sum;
        }
    }

    /** THE TAPE and the TOKEN at which its reading stands. */
    private static final class Tape {
        static final int ROOM = 900;
        static final int END = 0;
        static final int WORD = 1;
        static final int WHOLE = 2;
        static final int SEMICOLON = 3;
        static final int NO_TOKEN = 4;
        private static final int LONGEST_WORD = 7;
        private static final int LONGEST_WHOLE = 8;

        private final byte[] bytes = new byte[ROOM];
        int length = 0;
        int kind = END;
        int start = 0;
        int value = 0;
        private int limit = 0;
        private int next = 0;

        void append(int word) {
            for (int shift = 24; shift >= 0; shift -= 8) {
                if (length < bytes.length) {
                    bytes[length] = (byte) (word >> shift);
                    length++;
                }
            }
        }

        void rewind(int n) {
            limit = Math.min(n, bytes.length);
            next = 0;
            advance();
        }

        void advance() {
            while (next < limit && bytes[next] == ' ') {
                next++;
            }
            start = next;
            value = 0;
            if (next >= limit) {
                kind = END;
                return;
            }
            int first = bytes[next];
            boolean letters = first >= 'a' && first <= 'z';
            boolean digits = first >= '0' && first <= '9';
            if (first == ';') {
                kind = SEMICOLON;
                next++;
            } else if (letters || digits) {
                int least = letters ? 'a' : '0';
                int most = letters ? 'z' : '9';
                while (next < limit && bytes[next] >= least && bytes[next] <= most) {
                    value = value * 10 + bytes[next] - '0';
                    next++;
                }
                int longest = letters ? LONGEST_WORD : LONGEST_WHOLE;
                kind = next - start > longest ? NO_TOKEN : letters ? WORD : WHOLE;
            } else {
                kind = NO_TOKEN;
            }
        }

        boolean isWord(String text) {
            if (kind != WORD || next - start != text.length() || next > bytes.length) {
                return false;
            }
            for (int i = 0; i < text.length(); i++) {
                if (bytes[start + i] != text.charAt(i)) {
                    return false;
                }
            }
            return true;
        }
    }

    /** Reads a text into a DESK, up to the first FAULT. */
    private static final class Reader {
        private static final int FORM = 1;
        private static final int BOUNDS = 2;
        private static final int AGAIN = 3;
        private static final int ODD = 4;
        private static final int LONG = 5;
        private static final int MANY = 6;
        private static final int LACKS = 7;
        private static final int MOST_RATE = 2000;
        private static final int MOST_EX = 10;
        private static final int MOST_WHOLE = 99999999;

        final Tape tape = new Tape();
        int faultNumber = 0;
        int faultPlace = NONE;
        private boolean deskTold = false;
        private int wholeAt = 0;

        void read(int n, Desk into) {
            faultNumber = 0;
            faultPlace = NONE;
            deskTold = false;
            into.clear();
            tape.rewind(n);
            boolean goesOn = true;
            for (int lines = 0; lines <= Tape.ROOM && goesOn; lines++) {
                goesOn = readLine(into) && followsLine();
            }
        }

        private boolean followsLine() {
            if (tape.kind == Tape.END) {
                return false;
            }
            if (tape.kind != Tape.SEMICOLON) {
                return fail(FORM, tape.start);
            }
            tape.advance();
            return true;
        }

        private boolean readLine(Desk into) {
            if (tape.isWord("desk")) {
                return deskTold ? fail(AGAIN, tape.start) : readDesk(into);
            }
            boolean isHoliday = tape.isWord("holiday");
            boolean isBond = tape.isWord("bond");
            if (!isHoliday && !isBond && !tape.isWord("quote")) {
                return fail(FORM, tape.start);
            }
            if (!deskTold) {
                return fail(LACKS, tape.start);
            }
            if (isHoliday) {
                return readHoliday(into);
            }
            return isBond ? readBond(into) : readQuote(into);
        }

        private boolean readDesk(Desk into) {
            tape.advance();
            if (!takeWord("from")) {
                return false;
            }
            into.startDay = takeDate();
            if (into.startDay == NONE || !takeWord("cash")) {
                return false;
            }
            into.startCash = takeWhole(0, MOST_WHOLE);
            deskTold = true;
            return into.startCash != NONE;
        }

        private boolean readHoliday(Desk into) {
            if (into.holidays.count >= Holidays.ROOM) {
                return fail(MANY, tape.start);
            }
            tape.advance();
            int day = takeDate();
            if (day == NONE) {
                return false;
            }
            if (into.holidays.contains(day)) {
                return fail(AGAIN, wholeAt);
            }
            into.holidays.insert(day);
            return true;
        }

        private boolean readBond(Desk into) {
            int b = into.bondCount;
            if (b < 0 || b >= into.bonds.length) {
                return fail(MANY, tape.start);
            }
            tape.advance();
            Bond bond = into.bonds[b];
            if (!readRate(bond) || !readMature(bond) || !readIssue(bond) || !readFirst(bond) || !readEx(bond)) {
                return false;
            }
            into.bondCount++;
            return true;
        }

        private boolean readRate(Bond bond) {
            bond.rate = takeWhole(0, MOST_RATE);
            if (bond.rate == NONE || !takeWord("per")) {
                return false;
            }
            bond.frequency = takeWhole(1, 4);
            if (bond.frequency == NONE) {
                return false;
            }
            if (bond.frequency == 3) {
                return fail(BOUNDS, wholeAt);
            }
            bond.rule = takeRule();
            if (bond.rule == NONE) {
                return false;
            }
            bond.monthEnds = tape.isWord("eom");
            if (bond.monthEnds) {
                tape.advance();
            }
            return true;
        }

        private int takeRule() {
            int rule = NONE;
            if (tape.isWord("thirty")) {
                rule = Bond.THIRTY;
            } else if (tape.isWord("euro")) {
                rule = Bond.EURO;
            } else if (tape.isWord("money")) {
                rule = Bond.MONEY;
            } else if (tape.isWord("fixed")) {
                rule = Bond.FIXED;
            } else if (tape.isWord("actual")) {
                rule = Bond.ACTUAL;
            }
            if (rule == NONE) {
                fail(FORM, tape.start);
            } else {
                tape.advance();
            }
            return rule;
        }

        private boolean readMature(Bond bond) {
            if (!takeWord("mature")) {
                return false;
            }
            bond.matureDay = takeDate();
            bond.anchorDay = bond.matureDay;
            if (bond.matureDay == NONE) {
                return false;
            }
            if (!tape.isWord("last")) {
                return true;
            }
            tape.advance();
            bond.anchorDay = takeDate();
            if (bond.anchorDay == NONE) {
                return false;
            }
            int months = Bond.STEPS_LATER * bond.stepMonths();
            int latest = Dates.monthsFrom(Dates.numberOf(bond.anchorDay), months, false);
            boolean odd = bond.anchorDay >= bond.matureDay || bond.matureDay > Dates.dayOf(latest);
            return !odd || fail(ODD, wholeAt);
        }

        private boolean readIssue(Bond bond) {
            if (!takeWord("issue")) {
                return false;
            }
            bond.issueDay = takeDate();
            if (bond.issueDay == NONE) {
                return false;
            }
            if (bond.issueDay >= bond.anchorDay) {
                return fail(ODD, wholeAt);
            }
            bond.layGrid();
            int steps = bond.stepsBehind(bond.issueDay);
            bond.firstAt = Bond.ANCHOR_AT + 1 - steps;
            return steps <= Bond.MOST_STEPS || fail(LONG, wholeAt);
        }

        private boolean readFirst(Bond bond) {
            if (!tape.isWord("first")) {
                return true;
            }
            tape.advance();
            int day = takeDate();
            if (day == NONE) {
                return false;
            }
            int at = bond.gridPlaceOf(day);
            boolean odd = at < Bond.STEPS_LATER || day <= bond.issueDay
                    || bond.gridDays[at - Bond.STEPS_LATER] > bond.issueDay;
            bond.firstAt = at;
            return !odd || fail(ODD, wholeAt);
        }

        private boolean readEx(Bond bond) {
            bond.exDays = 0;
            if (!tape.isWord("ex")) {
                return true;
            }
            tape.advance();
            bond.exDays = takeWhole(0, MOST_EX);
            return bond.exDays != NONE;
        }

        private boolean readQuote(Desk into) {
            int i = into.quoteCount;
            if (i < 0 || i >= Desk.QUOTE_ROOM) {
                return fail(MANY, tape.start);
            }
            tape.advance();
            int b = takeWhole(0, into.bondCount - 1);
            if (b < 0 || b >= into.bonds.length) {
                return false;
            }
            int day = takeDate();
            if (day == NONE) {
                return false;
            }
            if (!into.bonds[b].isSettle(day)) {
                return fail(ODD, wholeAt);
            }
            into.quotedBonds[i] = b;
            into.quotedDays[i] = day;
            into.quotedPrices[i] = takeWhole(1, MOST_PRICE);
            into.quoteCount++;
            return into.quotedPrices[i] != NONE;
        }

        private boolean fail(int number, int at) {
            faultNumber = number;
            faultPlace = at;
            return false;
        }

        private boolean takeWord(String text) {
            if (!tape.isWord(text)) {
                return fail(FORM, tape.start);
            }
            tape.advance();
            return true;
        }

        private int takeWhole(int least, int most) {
            wholeAt = tape.start;
            int value = tape.value;
            if (tape.kind != Tape.WHOLE) {
                fail(FORM, wholeAt);
                return NONE;
            }
            if (value < least || value > most) {
                fail(BOUNDS, wholeAt);
                return NONE;
            }
            tape.advance();
            return value;
        }

        private int takeDate() {
            int number = takeWhole(0, MOST_WHOLE);
            if (number == NONE) {
                return NONE;
            }
            if (!Dates.isDate(number)) {
                fail(BOUNDS, wholeAt);
                return NONE;
            }
            return Dates.dayOf(number);
        }
    }

    /** A bond at a SETTLE: what does not change with the yield is reckoned once. */
    private static final class Settle {
        private Bond bond = null;
        int current = 0;
        boolean ex = false;
        final Ratio accruedRatio = new Ratio();
        final Ratio restRatio = new Ratio();
        private final Ratio scratch = new Ratio();
        double accruedValue = 0.0;
        private double restOfPeriod = 0.0;

        void open(Bond of, int day) {
            bond = of;
            current = of.periodAt(day);
            if (!of.hasPeriod(current)) {
                return;
            }
            int start = of.startOf(current);
            ex = of.exFrom[current] <= day;
            of.measure(start, day, accruedRatio);
            if (ex) {
                of.measurePeriod(current, scratch);
                accruedRatio.add(-scratch.upper, scratch.lower);
            }
            accruedRatio.multiply(of.rate, 100);
            accruedValue = accruedRatio.value();
            of.measure(day, of.endDays[current], restRatio);
            restOfPeriod = restRatio.value();
            restRatio.multiply(of.rate, 100);
        }

        double dirtyAt(double y) {
            if (bond == null) {
                return 0.0;
            }
            double growth = 1.0 + y * restOfPeriod;
            double sum = 0.0;
            int last = bond.periods - 1;
            for (int k = current; k >= 0 && k <= last && k < Bond.MOST_PERIODS; k++) {
                if (k > current) {
                    growth = growth * (1.0 + y * bond.fractions[k]);
                }
                double paid = ex && k == current ? 0.0 : bond.coupons[k];
                if (k == last) {
                    paid = paid + 100.0;
                }
                sum = sum + paid / growth;
            }
            return sum;
        }

        double cleanAt(double y) {
            return dirtyAt(y) - accruedValue;
        }
    }

    /** THE BRACKET round the yield of a PRICE. */
    private static final class Bracket {
        private Settle at = null;
        private double target = 0.0;
        double low = 0.0;
        double high = 0.0;
        private double dirtyAtLow = 0.0;
        private double dirtyAtHigh = 0.0;

        /** Whether it HOLDS, before it is narrowed. */
        boolean open(Settle settled, int price) {
            at = settled;
            target = price / 100.0 + settled.accruedValue;
            low = -0.2;
            high = 1.0;
            dirtyAtLow = settled.dirtyAt(low);
            dirtyAtHigh = settled.dirtyAt(high);
            return dirtyAtLow >= target && dirtyAtHigh <= target;
        }

        void narrowTimes(int n) {
            for (int i = 0; i < n; i++) {
                narrow(i);
            }
        }

        void narrow(int i) {
            if (at == null) {
                return;
            }
            double x = (low + high) / 2.0;
            if (i % 2 != 0 && dirtyAtLow > dirtyAtHigh) {
                double secant = low + (high - low) * ((dirtyAtLow - target) / (dirtyAtLow - dirtyAtHigh));
                if (secant > low && secant < high) {
                    x = secant;
                }
            }
            double dirtyAtX = at.dirtyAt(x);
            if (dirtyAtX >= target) {
                low = x;
                dirtyAtLow = dirtyAtX;
            } else {
                high = x;
                dirtyAtHigh = dirtyAtX;
            }
        }
    }

    /** HOLDINGS, who is ENTITLED, CASH and NOW. */
    private static final class Book {
        private static final long REPAID = 10000L;

        final int[] held = new int[Desk.BOND_ROOM];
        private final int[][] entitled = new int[Desk.BOND_ROOM][Bond.MOST_PERIODS];
        long money = 0;
        int today = 0;

        void open(int day, int startMoney) {
            today = day;
            money = startMoney;
            for (int b = 0; b < Desk.BOND_ROOM; b++) {
                held[b] = 0;
                for (int k = 0; k < Bond.MOST_PERIODS; k++) {
                    entitled[b][k] = 0;
                }
            }
        }

        void copyFrom(Book other) {
            today = other.today;
            money = other.money;
            for (int b = 0; b < Desk.BOND_ROOM; b++) {
                held[b] = other.held[b];
                for (int k = 0; k < Bond.MOST_PERIODS; k++) {
                    entitled[b][k] = other.entitled[b][k];
                }
            }
        }

        int entitledTo(int b, int k) {
            if (b < 0 || b >= Desk.BOND_ROOM || k < 0 || k >= Bond.MOST_PERIODS) {
                return 0;
            }
            return entitled[b][k];
        }

        long passDays(int n, Desk desk, Ratio scratch) {
            long comes = 0;
            for (int b = 0; b < desk.bondCount && b < Desk.BOND_ROOM; b++) {
                comes += passBond(b, desk.bonds[b], today + n, scratch);
            }
            today += n;
            money += comes;
            return comes;
        }

        // One bond's days may go by without the others', and by PERIODS rather than by days: while days go by
        // its holding changes only at the last PAY, which is no earlier than any of its EX.
        private long passBond(int b, Bond bond, int until, Ratio scratch) {
            long comes = 0;
            for (int k = 0; k < bond.periods && k < Bond.MOST_PERIODS; k++) {
                if (bond.exFrom[k] > today && bond.exFrom[k] <= until) {
                    entitled[b][k] = held[b];
                }
                if (bond.payDays[k] <= today || bond.payDays[k] > until) {
                    continue;
                }
                bond.measureCoupon(k, scratch);
                comes += scratch.floorTimes(entitled[b][k] * 100L);
                if (k == bond.periods - 1) {
                    comes += REPAID * held[b];
                    held[b] = 0;
                }
            }
            return comes;
        }
    }

    /** A LINE of a PERIOD, sign by sign. */
    private static final class Sheet {
        private static final int ROOM = 64;

        final char[] signs = new char[ROOM];
        int length = 0;

        void putSign(char sign) {
            if (length < ROOM) {
                signs[length] = sign;
                length++;
            }
        }

        void putNumber(long number, int leastDigits) {
            long scale = 1;
            int digits = 1;
            while (digits < 18 && (digits < leastDigits || number / scale >= 10)) {
                scale *= 10;
                digits++;
            }
            for (int i = 0; i < digits && scale > 0; i++) {
                putSign((char) ('0' + number / scale % 10));
                scale /= 10;
            }
        }
    }
}
