import java.util.NoSuchElementException;

/** Term V, TROUBLE, sentence by sentence; the constant, and promises 42 to 44. */
public final class ToldEdgesTest extends Edges {
    private static final String DESK = "desk from 20000110 cash 0";
    private static final String TEXT = DESK + ";bond 600 per 2 euro mature 20010301 last 20010101 issue 20000110 ex 3"
            + ";quote 0 20000110 9000;holiday 20000301;holiday 20000201";

    public static void main(String[] args) {
        constant();
        calls();
        troubleTerms();
        orderTerm();
        holiday();
        size();
        trouble();
        finish();
    }

    private static void constant() {
        edge("face", "`NONE = -1`: There is none; refused.", () -> {
            due("NONE", BondCalendars.NONE, -1);
            due("refused", new BondCalendars().now(), BondCalendars.NONE);
        });
    }

    private static void calls() {
        edge("face", "An object is used for at most 512 calls after it has been made;", () -> {
            BondCalendars x = of(TEXT);
            due("a deal", x.deal(0, 10, 9000), 90000);
            int used = 10;
            long comes = 0;
            while (used < 511) {
                comes += x.go(1);
                used++;
            }
            due("what came by then", comes, 2850 + 3000 + 1000 + 100000);
            due("the 512th call", x.cash(), -90000 + comes);
            // One text behind another, as often as 512 calls allow.
            BondCalendars y = new BondCalendars();
            String text = TEXT;
            int each = (text.length() + 19) / 20 + 1;
            for (int i = 0; i < 511 / each; i++) {
                due("desk " + i, tell(y, text), 1);
            }
            due("the last call", y.size(2), 2);
        });
    }

    // ---- Term V

    private static void troubleTerms() {
        edge("V", "TROUBLE of the latest call that may be refused (those of which a number is told here): 0 it wasn't;", () -> {
            BondCalendars x = of(TEXT);
            due("at first", new BondCalendars().trouble(), 0);
            x.weekday(0);
            due("refused", x.trouble(), 2);
            // These tell no number: they leave it as it was.
            x.trouble();
            x.fault();
            x.where();
            x.size(0);
            x.size(9);
            x.size(-1);
            x.holiday(0);
            throwsNone(x, 2);
            x.feed(0, 0, 0, 0, 0);
            due("behind those that tell no number", x.trouble(), 2);
            for (int i = 0; i < 45; i++) {
                x.feed(0, 0, 0, 0, 0);
            }
            due("behind feed() that answered NONE", x.trouble(), 2);
            x.weekday(20000101);
            due("not refused", x.trouble(), 0);
            throwsNone(x, -1);
            x.size(7);
            x.feed(0, 0, 0, 0, 0);
            due("behind those that tell no number", x.trouble(), 0);
            everyCall();
        });
        edge("V", "1 there is none such;", () -> {
            BondCalendars x = of(TEXT);
            due(x, "no such bond", x.bond(1, 0), -1, 1);
            due(x, "no such what", x.bond(0, 9), -1, 1);
            due(x, "no such PERIOD", x.coupon(0, 3, true), -1, 1);
            due(x, "no such RULE", x.counted(4, 20000101, 20000101, true), -1, 1);
            due(x, "no such sign", x.sign(0, 0, 99), -1, 1);
            due(x, "no such quote", x.quote(1, 0), -1, 1);
            due(x, "nothing kept", x.back() ? 1 : 0, 0, 1);
            x = new BondCalendars();
            due(x, "no DESK", x.flat(), -1, 1);
        });
        edge("V", "2 a number, a DATE;", () -> {
            BondCalendars x = of(TEXT);
            due(x, "no DATE", x.weekday(20000230), -1, 2);
            due(x, "a number out of bounds", x.months(20000101, 121, true), -1, 2);
            due(x, "more than THE TAPE has", x.desk(1), -1, 2);
            due(x, "k", x.grid(0, 4), -1, 2);
            due(x, "z", x.off(2001), NO_LONG, 2);
            due(x, "n", x.go(0), NO_LONG, 2);
        });
        edge("V", "3 no room;", () -> {
            BondCalendars x = of(TEXT);
            due(x, "fewer than 0", x.deal(0, -1, 9000), NO_LONG, 3);
            due(x, "9,999", x.deal(0, 9999, 9000), 9999L * 9000, 0);
            due(x, "more than 9,999", x.deal(0, 1, 9000), NO_LONG, 3);
        });
        edge("V", "4 a FAULT;", () -> {
            BondCalendars x = of(TEXT);
            for (String text : new String[] {"", "desk", "holiday", DESK + ";desk", "desk from 0", DESK + ";bond 2001"}) {
                due(x, "desk(" + text + ")", tell(x, text), -1, 4);
            }
            due(x, "none", tell(x, DESK), 0, 0);
        });
        edge("V", "5 not so (no SETTLE of that bond; THE BRACKET doesn't HOLD).", () -> {
            BondCalendars x = of(TEXT);
            due(x, "no SETTLE", x.current(0, 20000109), -1, 5);
            due(x, "THE BRACKET doesn't HOLD", x.narrows(0, 20000110, 99999), -1, 5);
            due(x, "it does", x.narrows(0, 20000110, 9000) > 0 ? 1 : 0, 1, 0);
            x.go(4000);
            due(x, "NOW is no SETTLE", x.deal(0, 1, 9000), NO_LONG, 5);
        });
    }

    /** Each call that may be refused clears TROUBLE when it isn't. */
    private static void everyCall() {
        BondCalendars x = of(TEXT);
        Run[] calls = {() -> x.days(20000101, 20000101), () -> x.weekday(20000101), () -> x.months(20000101, 0, true),
            () -> x.business(20000101), () -> x.businessFrom(20000101, 0), () -> x.counted(0, 20000101, 20000101, true),
            () -> x.bond(0, 0), () -> x.grid(0, 0), () -> x.period(0, 0, 0), () -> x.fraction(0, 0, true),
            () -> x.coupon(0, 0, true), () -> x.line(0, 0), () -> x.sign(0, 0, 0), () -> x.current(0, 20000110),
            () -> x.isEx(0, 20000110), () -> x.accrued(0, 20000110, true), () -> x.rest(0, 20000110, true),
            () -> x.dirty(0, 20000110, 0), () -> x.clean(0, 20000110, 0), () -> x.risk(0, 20000110, 0),
            () -> x.bracket(0, 20000110, 9000, 1, true), () -> x.narrows(0, 20000110, 9000),
            () -> x.pointsAt(0, 20000110, 99999), () -> x.quote(0, 0), () -> x.off(0), () -> x.flat(), () -> x.cheapest(),
            () -> x.now(), () -> x.cash(), () -> x.holding(0), () -> x.worth(0), () -> x.deal(0, 1, 1), () -> x.go(1),
            () -> x.income(1), () -> x.keep(), () -> x.back(), () -> tell(x, DESK), () -> x.flat(), () -> x.cheapest()};
        for (int i = 0; i < calls.length; i++) {
            due("refused ahead of call " + i, x.weekday(0), -1);
            calls[i].run();
            due("trouble() behind call " + i, x.trouble(), 0);
        }
    }

    private static void throwsNone(BondCalendars x, int i) {
        int thrown = 0;
        try {
            x.holiday(i);
        } catch (NoSuchElementException e) {
            thrown = 1;
        }
        due("holiday(" + i + ") throws", thrown, 1);
    }

    private static void orderTerm() {
        edge("V", "Refusals are met in the order in which a call tells them.", () -> {
            BondCalendars none = new BondCalendars();
            due(none, "off: 1, 2", none.off(-1), NO_LONG, 1);
            due(none, "worth: 1, 2", none.worth(-2001), NO_LONG, 1);
            due(none, "go: 1, 2", none.go(0), NO_LONG, 1);
            due(none, "income: 1, 2", none.income(0), NO_LONG, 1);
            due(none, "counted: 1, 2", none.counted(4, 0, 0, true), -1, 1);
            BondCalendars x = of(TEXT);
            due(x, "grid: 1, 2", x.grid(1, 4), -1, 1);
            due(x, "current: 1, 2", x.current(1, 0), -1, 1);
            due(x, "current: 1, 5", x.current(1, 20000109), -1, 1);
            due(x, "dirty: 1, 2", x.dirty(1, 20000110, 10001), NO_LONG, 1);
            due(x, "dirty: 2, 5", x.dirty(0, 20000109, 10001), NO_LONG, 2);
            due(x, "bracket: 1, 5", x.bracket(1, 20000110, 99999, 0, true), NO_LONG, 1);
            due(x, "bracket: 2, 5", x.bracket(0, 20000110, 99999, 61, true), NO_LONG, 2);
            due(x, "narrows: 2, 5", x.narrows(0, 20000109, 100000), -1, 2);
            due(x, "pointsAt: 2, 5", x.pointsAt(0, 20000109, 100000), NO_INT, 2);
            due(x, "deal: 1, 2, 3", x.deal(1, -10000, 0), NO_LONG, 1);
            due(x, "deal: 2, 3", x.deal(0, -1, 0), NO_LONG, 2);
            due(x, "deal: 3", x.deal(0, -1, 1), NO_LONG, 3);
            x.go(4000);
            due(x, "deal: 2, 5", x.deal(0, 0, 1), NO_LONG, 2);
            due(x, "deal: 5, 3", x.deal(0, -1, 1), NO_LONG, 5);
            due(x, "desk: 2, 4", x.desk(1), -1, 2);
        });
    }

    // ---- promises 42 to 44

    private static void holiday() {
        edge("42", "The i-th HOLIDAY, by DATES.", () -> {
            BondCalendars x = of(TEXT);
            due("told last", x.holiday(0), 20000201);
            due("told first", x.holiday(1), 20000301);
            // Told from the latest on, from the earliest on, to and fro.
            int[][] orders = {{9, 8, 7, 6, 5, 4, 3, 2, 1, 0}, {0, 1, 2, 3, 4, 5, 6, 7, 8, 9}, {4, 9, 0, 5, 8, 1, 6, 7, 2, 3}};
            for (int[] order : orders) {
                StringBuilder text = new StringBuilder(DESK);
                for (int i : order) {
                    text.append(";holiday ").append(number(1980 + 11 * i, 1 + i, 1 + 3 * i));
                }
                x = of(text.toString());
                for (int i = 0; i < 10; i++) {
                    due("holiday(" + i + ")", x.holiday(i), (1980 + 11 * i) * 10000 + (1 + i) * 100 + 1 + 3 * i);
                }
            }
        });
        edge("42", "NoSuchElementException if there is none such.", () -> {
            throwsNone(new BondCalendars(), 0);
            throwsNone(of(DESK), 0);
            BondCalendars x = of(TEXT);
            throwsNone(x, 2);
            throwsNone(x, -1);
            throwsNone(x, 10);
            for (int far : FAR) {
                throwsNone(x, far);
            }
            due("there is one still", x.holiday(1), 20000301);
            tell(x, DESK + ";holiday 20000202");
            throwsNone(x, 1);
            StringBuilder ten = new StringBuilder(DESK);
            for (int i = 0; i < 10; i++) {
                ten.append(";holiday ").append(20000110 + i);
            }
            x = of(ten.toString());
            due("the tenth", x.holiday(9), 20000119);
            throwsNone(x, 10);
        });
    }

    private static void size() {
        edge("43", "0 bonds, 1 quotes, 2 HOLIDAYS, 3 bytes of THE TAPE, 4 1 if something is kept.", () -> {
            BondCalendars x = of(TEXT);
            sizesAre(x, 1, 1, 2, 0, 0);
            x.keep();
            x.feed(0, 0, 0, 0, 0);
            sizesAre(x, 1, 1, 2, 20, 1);
            x.back();
            sizesAre(x, 1, 1, 2, 20, 1);
            tell(x, "");
            sizesAre(x, 1, 1, 2, 0, 1);
            String bond = ";bond 6 per 2 euro mature 20010301 issue 20000110";
            tell(x, DESK + bond + bond + bond + bond + ";quote 3 20000110 1");
            sizesAre(x, 4, 1, 0, 0, 0);
            StringBuilder all = new StringBuilder(DESK + bond);
            for (int i = 0; i < 10; i++) {
                all.append(";holiday ").append(20000110 + i).append(i < 6 ? ";quote 0 20000110 1" : "");
            }
            tell(x, all.toString());
            sizesAre(x, 1, 6, 10, 0, 0);
            for (int i = 0; i < 45; i++) {
                x.feed(0, 0, 0, 0, 0);
            }
            sizesAre(x, 1, 6, 10, 900, 0);
        });
        edge("43", "NONE for others; 0 for what there isn't.", () -> {
            for (BondCalendars x : new BondCalendars[] {new BondCalendars(), of(TEXT)}) {
                due("size(5)", x.size(5), -1);
                due("size(-1)", x.size(-1), -1);
                for (int far : FAR) {
                    due("size(" + far + ")", x.size(far), -1);
                }
            }
            sizesAre(new BondCalendars(), 0, 0, 0, 0, 0);
            sizesAre(of(DESK), 0, 0, 0, 0, 0);
        });
    }

    private static void sizesAre(BondCalendars x, int... sizes) {
        for (int what = 0; what < 5; what++) {
            due("size(" + what + ")", x.size(what), sizes[what]);
        }
    }

    private static void trouble() {
        edge("44", "TROUBLE.", () -> {
            BondCalendars x = new BondCalendars();
            due("at first", x.trouble(), 0);
            due("asked again", x.trouble(), 0);
            x.now();
            due("1", x.trouble(), 1);
            due("1 again", x.trouble(), 1);
            x.weekday(0);
            due("2", x.trouble(), 2);
            x.desk(0);
            due("4", x.trouble(), 4);
            tell(x, TEXT);
            due("0", x.trouble(), 0);
            x.deal(0, -1, 1);
            due("3", x.trouble(), 3);
            x.current(0, 20000109);
            due("5", x.trouble(), 5);
            x.now();
            due("0 again", x.trouble(), 0);
        });
    }
}
