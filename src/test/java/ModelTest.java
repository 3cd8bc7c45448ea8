import java.math.BigInteger;
import java.nio.charset.StandardCharsets;
import java.time.DayOfWeek;
import java.time.LocalDate;
import java.time.YearMonth;
import java.time.temporal.ChronoUnit;
import java.util.ArrayList;
import java.util.Arrays;
import java.util.List;
import java.util.NoSuchElementException;
import java.util.Random;
import java.util.TreeSet;

/**
 * Plays random runs of calls against a second, slow and plain reading of the document
 * (java.time, BigInteger, day by day, every yield tried) and compares every answer.
 */
public final class ModelTest {
    private static int wrong = 0;
    private static long compared = 0;
    private static final int[] DESKS_BY_FAULT = new int[8];

    public static void main(String[] args) {
        int runs = args.length > 0 ? Integer.parseInt(args[0]) : 400;
        long seed = args.length > 1 ? Long.parseLong(args[1]) : 20261118L;
        for (int run = 0; run < runs && wrong < 20; run++) {
            new Run(seed + run).play();
        }
        System.out.println(compared + " answers compared; desks by fault " + Arrays.toString(DESKS_BY_FAULT));
        for (int fault = 0; fault < DESKS_BY_FAULT.length; fault++) {
            if (DESKS_BY_FAULT[fault] == 0 && runs >= 400) {
                wrong++;
                System.out.println("no random desk had fault " + fault);
            }
        }
        System.out.println(wrong == 0 ? "all answers are as due" : wrong + " answers are not as due");
        if (wrong != 0) {
            System.exit(1);
        }
    }

    // ---- numbers in lowest terms

    private static final class Q {
        static final Q ZERO = new Q(BigInteger.ZERO, BigInteger.ONE);
        final BigInteger upper;
        final BigInteger lower;

        Q(BigInteger u, BigInteger l) {
            BigInteger g = u.gcd(l);
            upper = u.divide(g);
            lower = l.divide(g);
        }

        static Q of(long u, long l) {
            return new Q(BigInteger.valueOf(u), BigInteger.valueOf(l));
        }

        Q plus(Q o) {
            return new Q(upper.multiply(o.lower).add(o.upper.multiply(lower)), lower.multiply(o.lower));
        }

        Q minus(Q o) {
            return new Q(upper.multiply(o.lower).subtract(o.upper.multiply(lower)), lower.multiply(o.lower));
        }

        Q times(Q o) {
            return new Q(upper.multiply(o.upper), lower.multiply(o.lower));
        }

        long part(boolean wantsLower) {
            return (wantsLower ? lower : upper).longValueExact();
        }

        double value() {
            return (double) upper.longValueExact() / (double) lower.longValueExact();
        }

        long floor() {
            BigInteger[] both = upper.divideAndRemainder(lower);
            return both[0].longValueExact() - (both[1].signum() < 0 ? 1 : 0);
        }
    }

    // ---- dates

    private static LocalDate date(int number) {
        if (number < 19800101 || number > 20791231) {
            return null;
        }
        int year = number / 10000;
        int month = number / 100 % 100;
        int day = number % 100;
        if (month < 1 || month > 12 || day < 1 || day > YearMonth.of(year, month).lengthOfMonth()) {
            return null;
        }
        return LocalDate.of(year, month, day);
    }

    private static int number(LocalDate d) {
        return d.getYear() * 10000 + d.getMonthValue() * 100 + d.getDayOfMonth();
    }

    private static boolean isMonthEnd(LocalDate d) {
        return d.getDayOfMonth() == d.lengthOfMonth();
    }

    private static LocalDate shift(LocalDate d, int months, boolean eom) {
        LocalDate to = d.plusMonths(months);
        return eom && isMonthEnd(d) ? to.withDayOfMonth(to.lengthOfMonth()) : to;
    }

    private static long between(LocalDate d, LocalDate e) {
        return ChronoUnit.DAYS.between(d, e);
    }

    private static Q plainFraction(int rule, LocalDate d, LocalDate e) {
        if (rule == 2) {
            return Q.of(between(d, e), 360);
        }
        if (rule == 3) {
            return Q.of(between(d, e), 365);
        }
        int d1 = d.getDayOfMonth();
        int d2 = e.getDayOfMonth();
        boolean firstIsLate = d1 == 30 || d1 == 31;
        if (d2 == 31 && (rule == 1 || firstIsLate)) {
            d2 = 30;
        }
        if (d1 == 31) {
            d1 = 30;
        }
        return Q.of(360L * (e.getYear() - d.getYear()) + 30L * (e.getMonthValue() - d.getMonthValue()) + d2 - d1, 360);
    }

    // ---- the model's bond

    private static final class MBond {
        int rate;
        int f;
        int rule;
        boolean eom;
        LocalDate mature;
        LocalDate last;
        LocalDate issue;
        LocalDate first;
        int ex;
        List<LocalDate> coupons;
        int[] entitled;

        LocalDate anchor() {
            return last == null ? mature : last;
        }

        LocalDate grid(int k) {
            return shift(anchor(), k * 12 / f, eom);
        }

        int gridDatesBehindIssue() {
            int n = 0;
            for (int k = 0; grid(k).isAfter(issue); k--) {
                n++;
            }
            return n;
        }

        void layOut() {
            coupons = new ArrayList<>();
            for (int k = -200; k <= 0; k++) {
                LocalDate g = grid(k);
                if (g.isAfter(issue) && (first == null || !g.isBefore(first))) {
                    coupons.add(g);
                }
            }
            if (mature.isAfter(anchor())) {
                coupons.add(mature);
            }
            entitled = new int[coupons.size()];
        }

        LocalDate start(int k) {
            return k == 0 ? issue : coupons.get(k - 1);
        }

        LocalDate end(int k) {
            return coupons.get(k);
        }

        Q fraction(LocalDate d, LocalDate e) {
            if (rule != 4) {
                return plainFraction(rule, d, e);
            }
            Q sum = Q.ZERO;
            for (int k = -95; k <= 5; k++) {
                LocalDate g = grid(k);
                LocalDate h = grid(k + 1);
                LocalDate from = d.isAfter(g) ? d : g;
                LocalDate to = e.isBefore(h) ? e : h;
                if (to.isAfter(from)) {
                    sum = sum.plus(Q.of(between(from, to), f * between(g, h)));
                }
            }
            return sum;
        }

        Q fraction(int k) {
            return fraction(start(k), end(k));
        }

        Q coupon(int k) {
            return Q.of(rate, 100).times(fraction(k));
        }

        boolean isSettle(LocalDate s) {
            return !s.isBefore(issue) && s.isBefore(mature);
        }

        int current(LocalDate s) {
            for (int k = 0; k < coupons.size(); k++) {
                if (!start(k).isAfter(s) && end(k).isAfter(s)) {
                    return k;
                }
            }
            throw new AssertionError("no current period");
        }

        boolean adjoining(int k) {
            for (int j = -95; j <= 5; j++) {
                if (grid(j).equals(start(k)) && grid(j + 1).equals(end(k))) {
                    return true;
                }
            }
            return false;
        }
    }

    private static final class Fault extends Exception {
        private static final long serialVersionUID = 1L;
        final int number;
        final int place;

        Fault(int number, int place) {
            this.number = number;
            this.place = place;
        }
    }

    private static final class Token {
        final String text;
        final int place;

        Token(String text, int place) {
            this.text = text;
            this.place = place;
        }

        boolean isWhole() {
            return text.matches("[0-9]{1,8}");
        }
    }

    // ---- the model's desk: the text, read from a list of tokens

    private static final class MDesk {
        final TreeSet<Integer> holidays = new TreeSet<>();
        final List<MBond> bonds = new ArrayList<>();
        final List<int[]> quotes = new ArrayList<>();
        LocalDate from;
        long cash;
        private List<Token> tokens;
        private int at;

        void read(byte[] text) throws Fault {
            tokens = tokensOf(text);
            at = 0;
            boolean told = false;
            while (true) {
                told = line(told);
                if (peek().text.isEmpty()) {
                    return;
                }
                word(";");
            }
        }

        private static List<Token> tokensOf(byte[] text) {
            String s = new String(text, StandardCharsets.ISO_8859_1);
            List<Token> list = new ArrayList<>();
            int i = 0;
            while (i < s.length()) {
                char c = s.charAt(i);
                int j = i + 1;
                if (c == ' ') {
                    i++;
                    continue;
                }
                String set = c >= 'a' && c <= 'z' ? "[a-z]" : c >= '0' && c <= '9' ? "[0-9]" : null;
                while (set != null && j < s.length() && s.substring(j, j + 1).matches(set)) {
                    j++;
                }
                String run = s.substring(i, j);
                boolean fine = run.equals(";") || run.matches("[a-z]{1,7}") || run.matches("[0-9]{1,8}");
                list.add(new Token(fine ? run : "?", i));
                i = j;
            }
            list.add(new Token("", s.length()));
            return list;
        }

        private Token peek() {
            return tokens.get(at);
        }

        private void word(String w) throws Fault {
            if (!peek().text.equals(w)) {
                throw new Fault(1, peek().place);
            }
            at++;
        }

        private boolean optional(String w) {
            if (peek().text.equals(w)) {
                at++;
                return true;
            }
            return false;
        }

        private int whole(int... bounds) throws Fault {
            Token t = peek();
            if (!t.isWhole()) {
                throw new Fault(1, t.place);
            }
            int n = Integer.parseInt(t.text);
            if (n < bounds[0] || n > bounds[1]) {
                throw new Fault(2, t.place);
            }
            at++;
            return n;
        }

        private LocalDate dateHere() throws Fault {
            int place = peek().place;
            LocalDate d = date(whole(0, 99999999));
            if (d == null) {
                throw new Fault(2, place);
            }
            return d;
        }

        private boolean line(boolean told) throws Fault {
            Token t = peek();
            List<String> sorts = List.of("desk", "holiday", "bond", "quote");
            if (!sorts.contains(t.text)) {
                throw new Fault(1, t.place);
            }
            boolean isDesk = t.text.equals("desk");
            if (isDesk && told) {
                throw new Fault(3, t.place);
            }
            boolean full = t.text.equals("holiday") && holidays.size() == 10
                    || t.text.equals("bond") && bonds.size() == 4
                    || t.text.equals("quote") && quotes.size() == 6;
            if (full) {
                throw new Fault(6, t.place);
            }
            if (!isDesk && !told) {
                throw new Fault(7, t.place);
            }
            at++;
            switch (t.text) {
                case "desk":
                    word("from");
                    from = dateHere();
                    word("cash");
                    cash = whole(0, 99999999);
                    break;
                case "holiday":
                    int place = peek().place;
                    if (!holidays.add(number(dateHere()))) {
                        throw new Fault(3, place);
                    }
                    break;
                case "bond":
                    bonds.add(bond());
                    break;
                default:
                    quoteLine();
            }
            return true;
        }

        private MBond bond() throws Fault {
            MBond b = new MBond();
            b.rate = whole(0, 2000);
            word("per");
            int place = peek().place;
            b.f = whole(1, 4);
            if (b.f == 3) {
                throw new Fault(2, place);
            }
            b.rule = List.of("thirty", "euro", "money", "fixed", "actual").indexOf(peek().text);
            if (b.rule < 0) {
                throw new Fault(1, peek().place);
            }
            at++;
            b.eom = optional("eom");
            word("mature");
            b.mature = dateHere();
            if (optional("last")) {
                place = peek().place;
                b.last = dateHere();
                if (!b.last.isBefore(b.mature) || b.mature.isAfter(shift(b.last, 36 / b.f, false))) {
                    throw new Fault(4, place);
                }
            }
            word("issue");
            place = peek().place;
            b.issue = dateHere();
            if (!b.issue.isBefore(b.anchor())) {
                throw new Fault(4, place);
            }
            if (b.gridDatesBehindIssue() > 80) {
                throw new Fault(5, place);
            }
            if (optional("first")) {
                place = peek().place;
                b.first = dateHere();
                checkFirst(b, place);
            }
            b.ex = optional("ex") ? whole(0, 10) : 0;
            return b;
        }

        private static void checkFirst(MBond b, int place) throws Fault {
            int k = -300;
            while (k <= 300 && !b.grid(k).equals(b.first)) {
                k++;
            }
            if (k > 300 || !b.first.isAfter(b.issue) || b.first.isAfter(b.anchor()) || b.grid(k - 3).isAfter(b.issue)) {
                throw new Fault(4, place);
            }
        }

        private void quoteLine() throws Fault {
            int[] q = new int[3];
            q[0] = whole(0, bonds.size() - 1);
            int place = peek().place;
            LocalDate s = dateHere();
            if (!bonds.get(q[0]).isSettle(s)) {
                throw new Fault(4, place);
            }
            q[1] = number(s);
            q[2] = whole(1, 99999);
            quotes.add(q);
        }
    }

    // ---- the model of the whole object

    private static final class Model {
        byte[] tape = new byte[0];
        MDesk desk;
        int trouble;
        int fault;
        int place;
        int[] held;
        long cash;
        LocalDate now;
        Object[] kept;

        private long no(int why, long answer) {
            trouble = why;
            return answer;
        }

        private long yes(long answer) {
            trouble = 0;
            return answer;
        }

        private static long bits(double d) {
            return Double.doubleToLongBits(d);
        }

        long feed(int... words) {
            if (tape.length + 20 > 900) {
                return -1;
            }
            int at = tape.length;
            tape = Arrays.copyOf(tape, at + 20);
            for (int w : words) {
                for (int i = 0; i < 4; i++) {
                    tape[at++] = (byte) (w >>> (24 - 8 * i));
                }
            }
            return tape.length;
        }

        long desk(int n) {
            if (n < 0 || n > tape.length) {
                return no(2, -1);
            }
            byte[] text = Arrays.copyOf(tape, n);
            tape = new byte[0];
            MDesk told = new MDesk();
            try {
                told.read(text);
            } catch (Fault f) {
                fault = f.number;
                place = f.place;
                DESKS_BY_FAULT[fault]++;
                return no(4, -1);
            }
            DESKS_BY_FAULT[0]++;
            fault = 0;
            desk = told;
            for (MBond b : desk.bonds) {
                b.layOut();
            }
            held = new int[4];
            cash = desk.cash;
            now = desk.from;
            kept = null;
            return yes(desk.bonds.size());
        }

        long where() {
            return trouble == 4 ? place : -1;
        }

        boolean isBusiness(LocalDate d) {
            return d.getDayOfWeek() != DayOfWeek.SATURDAY && d.getDayOfWeek() != DayOfWeek.SUNDAY
                    && (desk == null || !desk.holidays.contains(number(d)));
        }

        LocalDate businessDays(LocalDate d, int n) {
            LocalDate at = d;
            for (int met = 0; met < Math.abs(n); ) {
                at = at.plusDays(n < 0 ? -1 : 1);
                if (isBusiness(at)) {
                    met++;
                }
            }
            return at;
        }

        LocalDate ex(MBond b, int k) {
            return businessDays(b.end(k), -b.ex);
        }

        LocalDate pay(MBond b, int k) {
            return isBusiness(b.end(k)) ? b.end(k) : businessDays(b.end(k), 1);
        }

        long days(int d, int e) {
            if (date(d) == null || date(e) == null) {
                return no(2, Integer.MIN_VALUE);
            }
            return yes(between(date(d), date(e)));
        }

        long weekday(int d) {
            return date(d) == null ? no(2, -1) : yes(date(d).getDayOfWeek().getValue() - 1);
        }

        long months(int d, int n, boolean eom) {
            if (date(d) == null || n < -120 || n > 120) {
                return no(2, -1);
            }
            return yes(number(shift(date(d), n, eom)));
        }

        long business(int d) {
            return date(d) == null ? no(2, -1) : yes(isBusiness(date(d)) ? 1 : 0);
        }

        long businessFrom(int d, int n) {
            if (date(d) == null || n < -60 || n > 60) {
                return no(2, -1);
            }
            return yes(number(businessDays(date(d), n)));
        }

        long counted(int rule, int d, int e, boolean lower) {
            if (rule < 0 || rule > 3) {
                return no(1, -1);
            }
            if (date(d) == null || date(e) == null || date(e).isBefore(date(d))) {
                return no(2, -1);
            }
            return yes(plainFraction(rule, date(d), date(e)).part(lower));
        }

        private MBond bondAt(int b) {
            return desk == null || b < 0 || b >= desk.bonds.size() ? null : desk.bonds.get(b);
        }

        private boolean lacks(int b, int k) {
            return bondAt(b) == null || k < 0 || k >= bondAt(b).coupons.size();
        }

        long bond(int b, int what) {
            MBond of = bondAt(b);
            if (of == null || what < 0 || what > 8) {
                return no(1, -1);
            }
            int[] all = {of.rate, of.f, of.rule, number(of.mature), number(of.anchor()), number(of.issue),
                of.eom ? 1 : 0, of.ex, of.coupons.size()};
            return yes(all[what]);
        }

        long grid(int b, int k) {
            if (bondAt(b) == null) {
                return no(1, -1);
            }
            return k < -90 || k > 3 ? no(2, -1) : yes(number(bondAt(b).grid(k)));
        }

        long period(int b, int k, int what) {
            if (lacks(b, k) || what < 0 || what > 6) {
                return no(1, -1);
            }
            MBond of = bondAt(b);
            long[] all = {number(of.start(k)), number(of.end(k)), between(of.start(k), of.end(k)),
                number(ex(of, k)), number(pay(of, k)), of.adjoining(k) ? 1 : 0, of.entitled[k]};
            return yes(all[what]);
        }

        long fraction(int b, int k, boolean lower) {
            return lacks(b, k) ? no(1, -1) : yes(bondAt(b).fraction(k).part(lower));
        }

        long coupon(int b, int k, boolean lower) {
            return lacks(b, k) ? no(1, -1) : yes(bondAt(b).coupon(k).part(lower));
        }

        private String text(int b, int k) {
            Q c = bondAt(b).coupon(k);
            return bondAt(b).end(k) + " " + c.upper + "/" + c.lower;
        }

        long line(int b, int k) {
            return lacks(b, k) ? no(1, -1) : yes(text(b, k).length());
        }

        long sign(int b, int k, int i) {
            return lacks(b, k) || i < 0 || i >= text(b, k).length() ? no(1, -1) : yes(text(b, k).charAt(i));
        }

        private int refusal(int b, int s, boolean inBounds) {
            if (bondAt(b) == null) {
                return 1;
            }
            if (date(s) == null || !inBounds) {
                return 2;
            }
            return bondAt(b).isSettle(date(s)) ? 0 : 5;
        }

        boolean settledEx(MBond b, LocalDate s) {
            return !ex(b, b.current(s)).isAfter(s);
        }

        Q accrued(MBond b, LocalDate s) {
            int k = b.current(s);
            Q a = Q.of(b.rate, 100).times(b.fraction(b.start(k), s));
            return settledEx(b, s) ? a.minus(b.coupon(k)) : a;
        }

        double dirty(MBond b, LocalDate s, double y) {
            int current = b.current(s);
            double g = 1.0 + y * cachedFraction(b, s, current);
            double v = 0.0;
            for (int k = current; k < b.coupons.size(); k++) {
                if (k != current) {
                    g = g * (1.0 + y * cachedFraction(b, null, k));
                }
                double a = k == current && settledEx(b, s) ? 0.0 : cachedCoupon(b, k);
                if (k == b.coupons.size() - 1) {
                    a = a + 100.0;
                }
                v = v + a / g;
            }
            return v;
        }

        // The model is slow enough: what it reckons of one bond's PERIODS is held here.
        private final java.util.Map<String, Double> cache = new java.util.HashMap<>();
        private MDesk cachedDesk;

        private double cachedFraction(MBond b, LocalDate s, int k) {
            freshCache();
            return cache.computeIfAbsent("f" + desk.bonds.indexOf(b) + "," + s + "," + k,
                    x -> b.fraction(s == null ? b.start(k) : s, b.end(k)).value());
        }

        private double cachedCoupon(MBond b, int k) {
            freshCache();
            return cache.computeIfAbsent("c" + desk.bonds.indexOf(b) + "," + k, x -> b.coupon(k).value());
        }

        private void freshCache() {
            if (cachedDesk != desk) {
                cache.clear();
                cachedDesk = desk;
            }
        }

        double clean(MBond b, LocalDate s, double y) {
            return dirty(b, s, y) - accrued(b, s).value();
        }

        long current(int b, int s) {
            int r = refusal(b, s, true);
            return r != 0 ? no(r, -1) : yes(bondAt(b).current(date(s)));
        }

        long isEx(int b, int s) {
            int r = refusal(b, s, true);
            return r != 0 ? no(r, -1) : yes(settledEx(bondAt(b), date(s)) ? 1 : 0);
        }

        long accrued(int b, int s, boolean lower) {
            int r = refusal(b, s, true);
            return r != 0 ? no(r, Long.MIN_VALUE) : yes(accrued(bondAt(b), date(s)).part(lower));
        }

        long rest(int b, int s, boolean lower) {
            int r = refusal(b, s, true);
            if (r != 0) {
                return no(r, -1);
            }
            MBond of = bondAt(b);
            return yes(Q.of(of.rate, 100).times(of.fraction(date(s), of.end(of.current(date(s))))).part(lower));
        }

        long dirty(int b, int s, int z) {
            int r = refusal(b, s, z >= -2000 && z <= 10000);
            return r != 0 ? no(r, Long.MIN_VALUE) : yes(bits(dirty(bondAt(b), date(s), z / 10000.0)));
        }

        long clean(int b, int s, int z) {
            int r = refusal(b, s, z >= -2000 && z <= 10000);
            return r != 0 ? no(r, Long.MIN_VALUE) : yes(bits(clean(bondAt(b), date(s), z / 10000.0)));
        }

        long risk(int b, int s, int z) {
            int r = refusal(b, s, z >= -1999 && z <= 9999);
            if (r != 0) {
                return no(r, Long.MIN_VALUE);
            }
            MBond of = bondAt(b);
            return yes(bits((dirty(of, date(s), (z - 1) / 10000.0) - dirty(of, date(s), (z + 1) / 10000.0)) / 2.0));
        }

        double[] narrowed(MBond b, LocalDate s, int price, int n) {
            double t = price / 100.0 + accrued(b, s).value();
            double low = -0.2;
            double high = 1.0;
            if (!(dirty(b, s, low) >= t && dirty(b, s, high) <= t)) {
                return null;
            }
            for (int i = 0; i < n; i++) {
                double x = (low + high) / 2.0;
                double v = dirty(b, s, low);
                double w = dirty(b, s, high);
                if (i % 2 == 1 && v > w) {
                    double y = low + (high - low) * ((v - t) / (v - w));
                    if (low < y && y < high) {
                        x = y;
                    }
                }
                if (dirty(b, s, x) >= t) {
                    low = x;
                } else {
                    high = x;
                }
            }
            return new double[] {low, high};
        }

        long bracket(int b, int s, int price, int n, boolean high) {
            int r = refusal(b, s, price >= 1 && price <= 99999 && n >= 0 && n <= 60);
            if (r != 0) {
                return no(r, Long.MIN_VALUE);
            }
            double[] both = narrowed(bondAt(b), date(s), price, n);
            return both == null ? no(5, Long.MIN_VALUE) : yes(bits(both[high ? 1 : 0]));
        }

        long narrows(int b, int s, int price) {
            int r = refusal(b, s, price >= 1 && price <= 99999);
            if (r != 0) {
                return no(r, -1);
            }
            for (int n = 0; n <= 60; n++) {
                double[] both = narrowed(bondAt(b), date(s), price, n);
                if (both == null) {
                    return no(5, -1);
                }
                if (both[1] - both[0] <= 0.000001) {
                    return yes(n);
                }
            }
            return yes(-2);
        }

        long pointsAt(int b, int s, int price) {
            int r = refusal(b, s, price >= 1 && price <= 99999);
            if (r != 0) {
                return no(r, Integer.MIN_VALUE);
            }
            MBond of = bondAt(b);
            Priced priced = new Priced(this, of, date(s));
            for (int z = 10000; z >= -2000; z--) {
                if (priced.dirty(z / 10000.0) - priced.accrued >= price / 100.0) {
                    return yes(z);
                }
            }
            return yes(Integer.MIN_VALUE);
        }

        long quote(int i, int what) {
            if (desk == null || i < 0 || i >= desk.quotes.size() || what < 0 || what > 2) {
                return no(1, -1);
            }
            return yes(desk.quotes.get(i)[what]);
        }

        private double off(List<Priced> all, double y) {
            double sum = 0.0;
            for (int i = 0; i < all.size(); i++) {
                double p = desk.quotes.get(i)[2] / 100.0;
                double c = all.get(i).dirty(y) - all.get(i).accrued;
                sum += Math.max(c - p, p - c);
            }
            return sum;
        }

        private List<Priced> priced() {
            List<Priced> all = new ArrayList<>();
            for (int[] q : desk.quotes) {
                all.add(new Priced(this, desk.bonds.get(q[0]), date(q[1])));
            }
            return all;
        }

        long off(int z) {
            if (desk == null) {
                return no(1, Long.MIN_VALUE);
            }
            return z < 0 || z > 2000 ? no(2, Long.MIN_VALUE) : yes(bits(off(priced(), z / 10000.0)));
        }

        long flat() {
            if (desk == null) {
                return no(1, -1);
            }
            if (desk.quotes.isEmpty()) {
                return yes(-2);
            }
            List<Priced> all = priced();
            double[] offs = new double[2001];
            double least = Double.MAX_VALUE;
            for (int z = 0; z <= 2000; z++) {
                offs[z] = off(all, z / 10000.0);
                least = Math.min(least, offs[z]);
            }
            for (int z = 0; ; z++) {
                if (offs[z] == least) {
                    return yes(z);
                }
            }
        }

        long cheapest() {
            if (desk == null) {
                return no(1, -1);
            }
            int best = -2;
            double most = -9.0;
            for (int i = 0; i < desk.quotes.size(); i++) {
                int[] q = desk.quotes.get(i);
                double[] both = narrowed(desk.bonds.get(q[0]), date(q[1]), q[2], 40);
                if (both != null && both[0] > most) {
                    most = both[0];
                    best = i;
                }
            }
            return yes(best);
        }

        long now() {
            return desk == null ? no(1, -1) : yes(number(now));
        }

        long cash() {
            return desk == null ? no(1, Long.MIN_VALUE) : yes(cash);
        }

        long holding(int b) {
            return bondAt(b) == null ? no(1, -1) : yes(held[b]);
        }

        long worth(int z) {
            if (desk == null) {
                return no(1, Long.MIN_VALUE);
            }
            if (z < -2000 || z > 10000) {
                return no(2, Long.MIN_VALUE);
            }
            double w = cash / 100.0;
            for (int b = 0; b < desk.bonds.size(); b++) {
                if (bondAt(b).isSettle(now)) {
                    w = w + held[b] * dirty(bondAt(b), now, z / 10000.0);
                }
            }
            return yes(bits(w));
        }

        long deal(int b, int n, int price) {
            if (bondAt(b) == null) {
                return no(1, Long.MIN_VALUE);
            }
            if (n < -9999 || n > 9999 || n == 0 || price < 1 || price > 99999) {
                return no(2, Long.MIN_VALUE);
            }
            if (!bondAt(b).isSettle(now)) {
                return no(5, Long.MIN_VALUE);
            }
            if (held[b] + n < 0 || held[b] + n > 9999) {
                return no(3, Long.MIN_VALUE);
            }
            long goes = (long) n * price + Q.of(n * 100L, 1).times(accrued(bondAt(b), now)).floor();
            held[b] += n;
            cash -= goes;
            return yes(goes);
        }

        private long dayGoesBy() {
            long before = cash;
            now = now.plusDays(1);
            for (int b = 0; b < desk.bonds.size(); b++) {
                MBond of = bondAt(b);
                int n = of.coupons.size();
                for (int k = 0; k < n; k++) {
                    // Neither is far from END, and asking that first is quicker.
                    if (Math.abs(between(of.end(k), now)) < 60 && ex(of, k).equals(now)) {
                        of.entitled[k] = held[b];
                    }
                }
                for (int k = 0; k < n; k++) {
                    if (Math.abs(between(of.end(k), now)) < 60 && pay(of, k).equals(now)) {
                        cash += Q.of(of.entitled[k] * 100L, 1).times(of.coupon(k)).floor();
                        if (k == n - 1) {
                            cash += 10000L * held[b];
                            held[b] = 0;
                        }
                    }
                }
            }
            return cash - before;
        }

        private boolean mayNotGo(int n) {
            return n < 1 || n > 4000 || now.plusDays(n).getYear() > 2079;
        }

        long go(int n) {
            if (desk == null) {
                return no(1, Long.MIN_VALUE);
            }
            if (mayNotGo(n)) {
                return no(2, Long.MIN_VALUE);
            }
            long sum = 0;
            for (int i = 0; i < n; i++) {
                sum += dayGoesBy();
            }
            return yes(sum);
        }

        private Object[] snapshot() {
            int[][] entitled = new int[desk.bonds.size()][];
            for (int b = 0; b < entitled.length; b++) {
                entitled[b] = bondAt(b).entitled.clone();
            }
            return new Object[] {held.clone(), entitled, cash, now};
        }

        private void restore(Object[] all) {
            held = ((int[]) all[0]).clone();
            int[][] entitled = (int[][]) all[1];
            for (int b = 0; b < entitled.length; b++) {
                bondAt(b).entitled = entitled[b].clone();
            }
            cash = (Long) all[2];
            now = (LocalDate) all[3];
        }

        long income(int n) {
            if (desk == null) {
                return no(1, Long.MIN_VALUE);
            }
            Object[] before = snapshot();
            long answer = go(n);
            restore(before);
            return answer;
        }

        boolean keep() {
            if (desk == null) {
                trouble = 1;
                return false;
            }
            trouble = 0;
            kept = snapshot();
            return true;
        }

        boolean back() {
            if (kept == null) {
                trouble = 1;
                return false;
            }
            trouble = 0;
            restore(kept);
            return true;
        }

        long holiday(int i) {
            if (desk == null || i < 0 || i >= desk.holidays.size()) {
                return -999;
            }
            return new ArrayList<>(desk.holidays).get(i);
        }

        long size(int what) {
            switch (what) {
                case 0: return desk == null ? 0 : desk.bonds.size();
                case 1: return desk == null ? 0 : desk.quotes.size();
                case 2: return desk == null ? 0 : desk.holidays.size();
                case 3: return tape.length;
                case 4: return kept == null ? 0 : 1;
                default: return -1;
            }
        }
    }

    /** One bond at one date, for the calls that try many yields. */
    private static final class Priced {
        final double accrued;
        private final double[] fractions;
        private final double[] payments;

        Priced(Model model, MBond b, LocalDate s) {
            accrued = model.accrued(b, s).value();
            int current = b.current(s);
            int n = b.coupons.size() - current;
            fractions = new double[n];
            payments = new double[n];
            for (int i = 0; i < n; i++) {
                int k = current + i;
                fractions[i] = i == 0 ? b.fraction(s, b.end(k)).value() : b.fraction(k).value();
                payments[i] = i == 0 && model.settledEx(b, s) ? 0.0 : b.coupon(k).value();
            }
            payments[n - 1] += 100.0;
        }

        double dirty(double y) {
            double g = 1.0 + y * fractions[0];
            double v = 0.0;
            for (int i = 0; i < fractions.length; i++) {
                if (i > 0) {
                    g = g * (1.0 + y * fractions[i]);
                }
                v = v + payments[i] / g;
            }
            return v;
        }
    }

    // ---- random runs

    private static final class Run {
        private final Random random;
        private final BondCalendars real = new BondCalendars();
        private final Model model = new Model();
        private final StringBuilder told = new StringBuilder();
        private final long seed;
        private int calls = 0;

        Run(long seed) {
            this.seed = seed;
            this.random = new Random(seed);
        }

        void play() {
            while (calls < 480 && wrong < 20) {
                if (random.nextInt(40) == 0 || model.desk == null && random.nextInt(3) > 0) {
                    feedDesk();
                } else {
                    call(random.nextInt(42));
                }
            }
        }

        private void due(String what, long got, long want) {
            compared++;
            calls++;
            if (got != want) {
                wrong++;
                System.out.println("seed " + seed + ", call " + calls + ": " + what + " answered " + got
                        + ", due is " + want + "; desk: " + told);
            }
            if (real.trouble() != model.trouble || real.where() != model.where() || real.fault() != model.fault) {
                wrong++;
                System.out.println("seed " + seed + ", call " + calls + ": after " + what + " trouble, where, fault "
                        + real.trouble() + " " + real.where() + " " + real.fault() + ", due are " + model.trouble
                        + " " + model.where() + " " + model.fault + "; desk: " + told);
            }
        }

        private int pick(int... of) {
            return of[random.nextInt(of.length)];
        }

        private boolean chance(int oneIn) {
            return random.nextInt(oneIn) == 0;
        }

        // -- texts

        private int someDate() {
            LocalDate d = LocalDate.of(1980, 1, 1).plusDays(random.nextInt(36525));
            if (chance(3)) {
                d = LocalDate.of(1998, 1, 1).plusDays(random.nextInt(3000));
            }
            if (chance(4)) {
                d = d.withDayOfMonth(d.lengthOfMonth());
            }
            return number(d);
        }

        private int near(int n) {
            LocalDate d = date(n);
            if (d == null) {
                return n;
            }
            return number(d.plusDays(random.nextInt(9) - 4));
        }

        private String bondText(List<LocalDate[]> bonds) {
            int f = pick(1, 2, 4);
            LocalDate mature = date(someDate());
            boolean eom = chance(2);
            LocalDate anchor = mature;
            StringBuilder s = new StringBuilder("bond " + pick(0, 2000, random.nextInt(2001), random.nextInt(1000)));
            s.append(" per ").append(f).append(' ').append(pick5());
            if (eom) {
                s.append(" eom");
            }
            s.append(" mature ").append(number(mature));
            if (chance(2)) {
                anchor = mature.minusDays(1 + random.nextInt(36 * 31 / f));
                if (chance(3)) {
                    anchor = shift(mature, -12 / f * (1 + random.nextInt(3)), eom);
                }
                if (anchor.getYear() < 1980) {
                    anchor = mature;
                } else {
                    s.append(" last ").append(number(anchor));
                }
            }
            int steps = chance(3) ? random.nextInt(84) : random.nextInt(12);
            LocalDate issue = shift(anchor, -12 / f * steps, eom).minusDays(pick(0, 1, random.nextInt(366 / f)));
            if (issue.getYear() < 1980) {
                issue = LocalDate.of(1980, 1, 1).plusDays(random.nextInt(3));
            }
            s.append(" issue ").append(number(issue));
            if (chance(3)) {
                LocalDate first = anchor;
                for (int k = 0; k < 90; k++) {
                    LocalDate g = shift(anchor, -12 / f * k, eom);
                    if (g.isAfter(issue)) {
                        first = g;
                    }
                }
                first = shift(first, 12 / f * random.nextInt(4), eom);
                s.append(" first ").append(number(first));
            }
            if (chance(2)) {
                s.append(" ex ").append(pick(0, 1, 5, 10, random.nextInt(11)));
            }
            bonds.add(new LocalDate[] {issue, mature});
            return s.toString();
        }

        private String pick5() {
            return new String[] {"thirty", "euro", "money", "fixed", "actual", "actual"}[random.nextInt(6)];
        }

        private String deskText() {
            List<LocalDate[]> bonds = new ArrayList<>();
            List<String> lines = new ArrayList<>();
            int n = chance(9) ? 5 : 1 + random.nextInt(4);
            int from = someDate();
            for (int i = 0; i < n; i++) {
                lines.add(bondText(bonds));
            }
            if (chance(8)) {
                lines.add("bond 2000 per 1 money mature 20791231 issue 20000101");
                bonds.add(new LocalDate[] {date(20000101), date(20791231)});
            }
            if (!bonds.isEmpty() && !chance(4)) {
                LocalDate[] b = bonds.get(random.nextInt(bonds.size()));
                LocalDate d = b[0].plusDays(random.nextInt((int) Math.max(1, Math.min(3000, between(b[0], b[1])))));
                from = number(d);
            }
            int quotes = chance(9) ? 7 : random.nextInt(4);
            for (int i = 0; i < quotes; i++) {
                int b = random.nextInt(bonds.size());
                LocalDate d = bonds.get(b)[0];
                long span = Math.max(1, between(d, bonds.get(b)[1]));
                d = d.plusDays((long) (random.nextDouble() * (span + (chance(10) ? 5 : 0))));
                lines.add("quote " + b + " " + number(d) + " " + pick(10000, 9000 + random.nextInt(2000),
                        1 + random.nextInt(99999), 5000 + random.nextInt(9000)));
            }
            int holidays = chance(9) ? 11 : random.nextInt(5);
            for (int i = 0; i < holidays; i++) {
                int day = bonds.isEmpty() || chance(3) ? someDate() : near(number(bonds.get(0)[1]));
                lines.add(random.nextInt(lines.size() + 1), "holiday " + day);
            }
            lines.add(chance(25) ? random.nextInt(lines.size()) : 0,
                    "desk from " + from + " cash " + pick(0, 99999999, random.nextInt(1000000)));
            StringBuilder s = new StringBuilder();
            for (String line : lines) {
                s.append(s.length() == 0 ? "" : chance(3) ? " ; " : ";").append(line);
            }
            return s.toString();
        }

        private String spoilt(String text) {
            String[] parts = text.split("(?<=[ ;])|(?=[ ;])");
            int times = 1 + random.nextInt(2);
            for (int i = 0; i < times; i++) {
                int at = random.nextInt(parts.length);
                String[] with = {"", ";", "desk", "holiday", "bond", "quote", "first", "ex", "last", "eom", "0", "11",
                    "2001", "20000230", "100000000", "99999999", "toolongs", "\u00ff", "A", "00000002", "-", "20791231",
                    "19800101", "per", "x", "\n", "cash", "19791231", "20800101", "3", "5", "100000"};
                if (parts[at].matches("[0-9]{8}") && chance(2)) {
                    parts[at] = Integer.toString(near(Integer.parseInt(parts[at])));
                } else if (parts[at].equals(" ") && chance(2)) {
                    parts[at] = "   ";
                } else {
                    parts[at] = with[random.nextInt(with.length)];
                }
            }
            return String.join("", parts);
        }

        private void feedDesk() {
            String text = deskText();
            if (chance(2)) {
                text = spoilt(text);
            }
            byte[] bytes = text.getBytes(StandardCharsets.ISO_8859_1);
            int n = Math.min(900, bytes.length);
            byte[] padded = Arrays.copyOf(bytes, 900);
            int rows = (n + 19) / 20;
            if (chance(50)) {
                rows = 46;
            }
            int stale = model.tape.length;
            if (stale > 0) {
                due("desk(0)", real.desk(0), model.desk(0));
            }
            for (int r = 0; r < rows; r++) {
                int[] w = new int[5];
                for (int i = 0; i < 20 && r < 45; i++) {
                    w[i / 4] = w[i / 4] << 8 | padded[r * 20 + i] & 255;
                }
                due("feed", real.feed(w[0], w[1], w[2], w[3], w[4]), model.feed(w));
            }
            if (chance(12)) {
                n = pick(-1, 901, Integer.MAX_VALUE, Integer.MIN_VALUE, random.nextInt(n + 1));
                due("desk(" + n + ")", real.desk(n), model.desk(n));
                n = Math.min(bytes.length, model.tape.length);
            }
            told.setLength(0);
            told.append(text);
            due("desk(" + n + ")", real.desk(n), model.desk(n));
            due("size(0)", real.size(0), model.size(0));
        }

        // -- calls

        private int b() {
            return chance(15) ? pick(-1, 4, Integer.MAX_VALUE, Integer.MIN_VALUE) : random.nextInt(
                    model.desk == null || model.desk.bonds.isEmpty() ? 4 : model.desk.bonds.size());
        }

        private MBond at(int b) {
            return model.bondAt(b);
        }

        private int k(int b) {
            MBond of = at(b);
            int n = of == null ? 2 : of.coupons.size();
            return chance(15) ? pick(-1, n, Integer.MIN_VALUE, Integer.MAX_VALUE) : chance(3) ? n - 1 : random.nextInt(n);
        }

        private int s(int b) {
            MBond of = at(b);
            if (of == null || chance(15)) {
                return d();
            }
            if (chance(10)) {
                return number(pick(0, 1) == 0 ? of.mature : of.issue.minusDays(1));
            }
            if (chance(3)) {
                return near(number(of.end(random.nextInt(of.coupons.size()))));
            }
            if (chance(3)) {
                LocalDate ex = model.ex(of, random.nextInt(of.coupons.size()));
                return near(number(ex.getYear() < 1981 ? of.issue : ex));
            }
            return number(of.issue.plusDays(random.nextInt((int) between(of.issue, of.mature))));
        }

        private int d() {
            return chance(12) ? pick(0, -1, 19791231, 20800101, 20010229, 20000431, 20000100, 20001301, 20000001,
                    Integer.MAX_VALUE, Integer.MIN_VALUE, -20000101) : someDate();
        }

        private int z(int least, int most) {
            return chance(12) ? pick(least - 1, most + 1, Integer.MIN_VALUE, Integer.MAX_VALUE)
                    : chance(6) ? pick(least, most) : chance(2) ? Math.min(most, random.nextInt(1200))
                    : least + random.nextInt(most - least + 1);
        }

        private int price() {
            return chance(15) ? pick(0, -1, 100000, Integer.MIN_VALUE, Integer.MAX_VALUE)
                    : chance(8) ? pick(1, 99999) : chance(2) ? 7000 + random.nextInt(7000) : 1 + random.nextInt(99999);
        }

        private void call(int which) {
            if (which < 15) {
                callDates(which);
            } else if (which < 30) {
                callSettles(which);
            } else {
                callHoldings(which);
            }
        }

        private void callDates(int which) {
            int d = d();
            int e = d();
            int n = pick(0, 1, -1, 120, -120, 121, -121, 60, -60, 61, -61, random.nextInt(241) - 120,
                    random.nextInt(121) - 60, random.nextInt(20) - 10);
            int b = b();
            int k = k(b);
            boolean flag = chance(2);
            int what = random.nextInt(11) - 1;
            int rule = chance(9) ? pick(-1, 4) : random.nextInt(4);
            int i = chance(9) ? pick(-1, 99, Integer.MAX_VALUE) : random.nextInt(22);
            int g = chance(9) ? pick(-91, 4, -90, 3, Integer.MIN_VALUE, Integer.MAX_VALUE) : random.nextInt(94) - 90;
            switch (which) {
                case 0: due("days " + d + " " + e, real.days(d, e), model.days(d, e)); break;
                case 1: due("weekday " + d, real.weekday(d), model.weekday(d)); break;
                case 2: due("months " + d + " " + n + flag, real.months(d, n, flag), model.months(d, n, flag)); break;
                case 3: due("business " + d, real.business(d), model.business(d)); break;
                case 4: due("businessFrom " + d + " " + n, real.businessFrom(d, n), model.businessFrom(d, n)); break;
                case 5:
                case 6:
                    due("counted " + rule + " " + d + " " + e + flag, real.counted(rule, d, e, flag),
                            model.counted(rule, d, e, flag));
                    break;
                case 7: due("bond " + b + " " + what, real.bond(b, what), model.bond(b, what)); break;
                case 8: due("grid " + b + " " + g, real.grid(b, g), model.grid(b, g)); break;
                case 9:
                case 10:
                    due("period " + b + " " + k + " " + what, real.period(b, k, what), model.period(b, k, what));
                    break;
                case 11: due("fraction " + b + " " + k + flag, real.fraction(b, k, flag), model.fraction(b, k, flag)); break;
                case 12: due("coupon " + b + " " + k + flag, real.coupon(b, k, flag), model.coupon(b, k, flag)); break;
                case 13: due("line " + b + " " + k, real.line(b, k), model.line(b, k)); break;
                default: due("sign " + b + " " + k + " " + i, real.sign(b, k, i), model.sign(b, k, i));
            }
        }

        private void callSettles(int which) {
            int b = b();
            int s = s(b);
            boolean flag = chance(2);
            int z = z(-2000, 10000);
            int p = price();
            int n = chance(9) ? pick(-1, 61) : random.nextInt(61);
            int i = chance(9) ? pick(-1, 6, Integer.MAX_VALUE) : random.nextInt(4);
            String bs = " " + b + " " + s + " ";
            switch (which) {
                case 15: due("current" + bs, real.current(b, s), model.current(b, s)); break;
                case 16: due("isEx" + bs, real.isEx(b, s), model.isEx(b, s)); break;
                case 17:
                case 18: due("accrued" + bs + flag, real.accrued(b, s, flag), model.accrued(b, s, flag)); break;
                case 19: due("rest" + bs + flag, real.rest(b, s, flag), model.rest(b, s, flag)); break;
                case 20: due("dirty" + bs + z, real.dirty(b, s, z), model.dirty(b, s, z)); break;
                case 21: due("clean" + bs + z, real.clean(b, s, z), model.clean(b, s, z)); break;
                case 22: due("risk" + bs + z, real.risk(b, s, z), model.risk(b, s, z)); break;
                case 23:
                    due("bracket" + bs + p + " " + n + flag, real.bracket(b, s, p, n, flag),
                            model.bracket(b, s, p, n, flag));
                    break;
                case 24: due("narrows" + bs + p, real.narrows(b, s, p), model.narrows(b, s, p)); break;
                case 25: due("pointsAt" + bs + p, real.pointsAt(b, s, p), model.pointsAt(b, s, p)); break;
                case 26: int what = random.nextInt(5) - 1;
                    due("quote " + i + " " + what, real.quote(i, what), model.quote(i, what));
                    break;
                case 27: int y = z(0, 2000);
                    due("off " + y, real.off(y), model.off(y));
                    break;
                case 28:
                    if (chance(3)) {
                        due("flat", real.flat(), model.flat());
                    }
                    break;
                default: due("cheapest", real.cheapest(), model.cheapest());
            }
        }

        private void callHoldings(int which) {
            int b = b();
            int z = z(-2000, 10000);
            int n = chance(15) ? pick(0, 10000, -10000, Integer.MIN_VALUE, Integer.MAX_VALUE)
                    : chance(3) ? random.nextInt(19999) - 9999 : 1 + random.nextInt(500);
            int go = chance(12) ? pick(0, -1, 4001, Integer.MIN_VALUE, Integer.MAX_VALUE)
                    : chance(30) ? 4000 : 1 + random.nextInt(chance(2) ? 10 : 400);
            switch (which) {
                case 30: due("now", real.now(), model.now()); break;
                case 31: due("cash", real.cash(), model.cash()); break;
                case 32: due("holding " + b, real.holding(b), model.holding(b)); break;
                case 33: due("worth " + z, real.worth(z), model.worth(z)); break;
                case 34:
                case 35: int p = price();
                    due("deal " + b + " " + n + " " + p, real.deal(b, n, p), model.deal(b, n, p));
                    break;
                case 36: due("go " + go, real.go(go), model.go(go)); break;
                case 37: due("income " + go, real.income(go), model.income(go)); break;
                case 38: due("keep", real.keep() ? 1 : 0, model.keep() ? 1 : 0); break;
                case 39:
                    if (chance(2)) {
                        due("back", real.back() ? 1 : 0, model.back() ? 1 : 0);
                    }
                    break;
                case 40: int i = random.nextInt(13) - 1;
                    due("holiday " + i, realHoliday(i), model.holiday(i));
                    break;
                default: int what = random.nextInt(8) - 2;
                    due("size " + what, real.size(what), model.size(what));
            }
        }

        private long realHoliday(int i) {
            try {
                return real.holiday(i);
            } catch (NoSuchElementException e) {
                return -999;
            }
        }
    }
}
