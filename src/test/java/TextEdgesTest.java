import java.util.ArrayList;
import java.util.Arrays;
import java.util.List;
import java.util.regex.Matcher;
import java.util.regex.Pattern;

/** Term I, the text of a DESK and its FAULTS, sentence by sentence; promises 1 to 5. In texts, ^ marks a FAULT's place. */
public final class TextEdgesTest extends Edges {
    private static final String DESK = "desk from 20000101 cash 0";
    private static final String BOND = ";bond 100 per 2 money mature 20050101 issue 20000110";
    private static final String PER = DESK + ";bond 100 per ";
    private static final String LAST = DESK + ";bond 100 per 2 money mature 20050101 last ";
    private static final String ISSUE = DESK + ";bond 100 per 2 money mature 20050101 issue ";

    public static void main(String[] args) {
        tape();
        tokens();
        lines();
        bondLine();
        quoteLine();
        form();
        bounds();
        again();
        oddLast();
        oddIssue();
        oddFirst();
        oddQuote();
        tooLong();
        many();
        lacks();
        leastOfAll();
        newObject();
        feed();
        desk();
        faultAndWhere();
        finish();
    }

    // ---- Term I: THE TAPE and TOKENS

    private static void tape() {
        edge("I", "THE TEXT of a DESK (THE TAPE has 900 bytes;", () -> {
            String full = DESK + " ".repeat(900 - DESK.length());
            fine(full, 0);
            String last = DESK + " ".repeat(899 - DESK.length());
            fault(last + "#", 1, 899);
            fine(" ".repeat(900 - DESK.length()) + DESK, 0);
            // A WORD, a WHOLE up to the very last byte.
            fault(DESK + " ".repeat(895 - DESK.length()) + ";desk", 3, 896);
            fault(DESK + " ".repeat(895 - DESK.length()) + ";bond", 1, 900);
            fault("desk from 20000101 cash" + " ".repeat(868) + "123456789", 1, 891);
            fault(" ".repeat(900), 1, 900);
        });
    }

    private static void tokens() {
        edge("I", "blanks, 32, part TOKENS and mean nothing else;", () -> {
            fine("   desk    from     20000101   cash   0    ", 0);
            fine("desk from20000101cash0", 0);
            fine(DESK + ";holiday20000103;bond1per1money eom mature20050101issue20000110ex0;quote0 20000110 1", 1);
            faultAt(DESK.replace("20000101", "2000 0101").replace("2000 0", "^2000 0"), 2);
            faultAt("^de sk from 20000101 cash 0", 1);
            for (int sign : new int[] {0, 1, 9, 10, 13, 31, 33, 95, 127, 128, 160, 255}) {
                fault("desk" + (char) sign + "from 20000101 cash 0", 1, 4);
                fault((char) sign + DESK, 1, 0);
                fault(DESK + (char) sign, 1, DESK.length());
            }
        });
        edge("I", "TOKENS: WORDS of 1 to 7 small letters that stand together,", () -> {
            fine(DESK + ";holiday 20000101", 0);
            faultAt(DESK + ";^holidayx 20000101", 1);
            faultAt(DESK + ";^holidaydesk 20000101", 1);
            faultAt("^deskfrom 20000101 cash 0", 1);
            faultAt("^d", 1);
            faultAt("^Desk from 20000101 cash 0", 1);
            faultAt("^dEsk from 20000101 cash 0", 1);
            faultAt("desk^X", 1);
            faultAt("desk ^FROM", 1);
            // The signs next to a and z.
            faultAt("desk^`from 20000101 cash 0", 1);
            faultAt("desk^{from 20000101 cash 0", 1);
        });
        edge("I", "WHOLES of 1 to 8 digits that do,", () -> {
            fine("desk from 20000101 cash 7", 0);
            fine("desk from 20000101 cash 00000007", 0);
            due("CASH of eight digits", of("desk from 20000101 cash 00000007").cash(), 7);
            faultAt("desk from 20000101 cash ^000000007", 1);
            faultAt("desk from 20000101 cash ^123456789", 1);
            faultAt("desk from 20000101 cash ^12345678901234567890", 1);
            faultAt("desk from ^020000101 cash 0", 1);
            faultAt("desk from 20000101 cash ^-1", 1);
            faultAt("desk from 20000101 cash ^+1", 1);
            faultAt("desk from 20000101 cash 1^.5", 1);
            faultAt("desk from 20000101 cash 1^,000", 1);
            // The signs next to 0 and 9.
            faultAt("desk from 20000101 cash 1^/", 1);
            faultAt("desk from 20000101 cash 1^:", 1);
        });
        edge("I", "single ones of ;): LINE {; LINE}.", () -> {
            fine(DESK + ";holiday 20000103;holiday 20000104", 0);
            fine(DESK + " ; holiday 20000103 ; holiday 20000104 ", 0);
            faultAt("^;" + DESK, 1);
            faultAt(DESK + ";^", 1);
            faultAt(DESK + ";  ^", 1);
            faultAt(DESK + ";^;holiday 20000103", 1);
            faultAt(DESK + "; ^; holiday 20000103", 1);
            faultAt(DESK + " ^holiday 20000103", 1);
            faultAt(DESK + ";holiday 20000103 ^20000104", 1);
            faultAt(DESK + ";holiday 20000103;^", 1);
        });
    }

    // ---- Term I: LINES

    private static void lines() {
        edge("I", "LINE, one of: desk from DATE cash WHOLE (NOW; CASH, 0 .. 99,999,999), ahead of all others", () -> {
            BondCalendars x = of("desk from 19800101 cash 0");
            due("the earliest NOW", x.now(), 19800101);
            due("the least CASH", x.cash(), 0);
            x = of("desk from 20791231 cash 99999999");
            due("the latest NOW", x.now(), 20791231);
            due("the most CASH", x.cash(), 99999999);
            faultAt("desk from ^19791231 cash 0", 2);
            faultAt("desk from ^20800101 cash 0", 2);
            faultAt("desk from 20000101 cash ^100000000", 1);
        });
        edge("I", "holiday DATE (each once; up to 10)", () -> {
            StringBuilder ten = new StringBuilder(DESK);
            for (int i = 0; i < 10; i++) {
                ten.append(";holiday ").append(20000119 - i);
            }
            fine(ten.toString(), 0);
            BondCalendars x = of(ten.toString());
            due("HOLIDAYS", x.size(2), 10);
            for (int i = 0; i < 10; i++) {
                due("HOLIDAY " + i, x.holiday(i), 20000110 + i);
            }
            fine(DESK + ";holiday 19800101;holiday 20791231", 0);
            faultAt(DESK + ";holiday ^19791231", 2);
            faultAt(DESK + ";holiday ^20800101", 2);
            faultAt(DESK + ";holiday ^20010229", 2);
            due("none", of(DESK).size(2), 0);
        });
    }

    private static void bondLine() {
        edge("I", "bond WHOLE per WHOLE RULE [eom] mature DATE [last DATE] issue DATE [first DATE] [ex WHOLE]", () -> {
            String start = DESK + ";bond 100 per 2 money ";
            String[] eom = {"", "eom "};
            String[] last = {"", "last 20040701 "};
            String[] first = {"", " first 20010701"};
            String[] ex = {"", " ex 7"};
            for (int i = 0; i < 16; i++) {
                String text = start + eom[i & 1] + "mature 20050101 " + last[i >> 1 & 1] + "issue 20000701"
                        + first[i >> 2 & 1] + ex[i >> 3];
                fine(text, 1);
                BondCalendars x = of(text);
                due("eom of " + text, x.bond(0, 6), i & 1);
                due("ANCHOR of " + text, x.bond(0, 4), (i >> 1 & 1) == 0 ? 20050101 : 20040701);
                due("the first END of " + text, x.period(0, 0, 1), (i >> 2 & 1) == 0 ? 20010101 : 20010701);
                due("ex of " + text, x.bond(0, 7), i >> 3 == 0 ? 0 : 7);
            }
            faultAt(start + "mature 20050101 ^eom issue 20000701", 1);
            faultAt(start + "eom ^eom mature 20050101 issue 20000701", 1);
            faultAt(start + "mature 20050101 issue 20000701 ^last 20040701", 1);
            faultAt(start + "mature 20050101 last 20040701 ^last 20040701", 1);
            faultAt(start + "mature 20050101 ^first 20010701 issue 20000701", 1);
            faultAt(start + "mature 20050101 issue 20000701 first 20010701 ^first 20010701", 1);
            faultAt(start + "mature 20050101 issue 20000701 ex 7 ^first 20010701", 1);
            faultAt(start + "mature 20050101 issue 20000701 ex 7 ^ex 7", 1);
            faultAt(start + "^issue 20000701 mature 20050101", 1);
        });
        edge("I", "(RATE, 0 .. 2,000, hundredths of one by 100 a year;", () -> {
            due("RATE 0", of(DESK + BOND.replace("bond 100", "bond 0")).bond(0, 0), 0);
            due("RATE 2,000", of(DESK + BOND.replace("bond 100", "bond 2000")).bond(0, 0), 2000);
            faultAt(DESK + BOND.replace("bond 100", "bond ^2001"), 2);
            faultAt(DESK + BOND.replace("bond 100", "bond ^99999999"), 2);
        });
        edge("I", "COUPONS a year, F: 1, 2 or 4;", () -> {
            String behind = " money mature 20050101 issue 20000110";
            for (int f : new int[] {1, 2, 4}) {
                due("F " + f, of(PER + f + behind).bond(0, 1), f);
            }
            for (String f : new String[] {"0", "3", "5", "6", "8", "12", "99999999"}) {
                faultAt(PER + "^" + f + behind, 2);
            }
        });
        edge("I", "RULE: thirty, euro, money, fixed, or actual;", () -> {
            String[] rules = {"thirty", "euro", "money", "fixed", "actual"};
            for (int rule = 0; rule < 5; rule++) {
                due(rules[rule], of(PER + "1 " + rules[rule] + " mature 20050101 issue 20000110").bond(0, 2), rule);
            }
            for (String none : new String[] {"act", "thirt", "thirtyx", "eur", "fix", "actuals", "eom", "mature", "0"}) {
                faultAt(PER + "1 ^" + none + " mature 20050101 issue 20000110", 1);
            }
        });
        edge("I", "ex 0 .. 10, 0 without;", () -> {
            due("without", of(DESK + BOND).bond(0, 7), 0);
            due("ex 0", of(DESK + BOND + " ex 0").bond(0, 7), 0);
            due("ex 10", of(DESK + BOND + " ex 10").bond(0, 7), 10);
            faultAt(DESK + BOND + " ex ^11", 2);
            faultAt(DESK + BOND + " ex ^99999999", 2);
            // What was told of a former bond is no more.
            BondCalendars x = of(DESK + BOND + " ex 10");
            tell(x, DESK + BOND + " ex 9");
            tell(x, DESK + BOND);
            due("without, behind others", x.bond(0, 7), 0);
        });
        edge("I", "numbered from 0; up to 4)", () -> {
            StringBuilder text = new StringBuilder(DESK);
            for (int b = 0; b < 4; b++) {
                text.append(BOND.replace("bond 100", "bond " + (100 + b)));
                fine(text.toString(), b + 1);
            }
            BondCalendars x = of(text.toString());
            for (int b = 0; b < 4; b++) {
                due("RATE of bond " + b, x.bond(b, 0), 100 + b);
            }
            due(x, "bond(4, 0)", x.bond(4, 0), -1, 1);
            faultAt(text + ";^" + BOND.substring(1), 6);
        });
    }

    private static void quoteLine() {
        edge("I", "quote BOND DATE WHOLE (a bond told ahead; a SETTLE of it; PRICE, 1 .. 99,999; numbered from 0; up to 6)", () -> {
            StringBuilder text = new StringBuilder(DESK + BOND);
            for (int i = 0; i < 6; i++) {
                text.append(";quote 0 20000110 ").append(9000 + i);
                fine(text.toString(), 1);
            }
            BondCalendars x = of(text.toString());
            due("quotes", x.size(1), 6);
            for (int i = 0; i < 6; i++) {
                due("PRICE of quote " + i, x.quote(i, 2), 9000 + i);
            }
            faultAt(text + ";^quote 0 20000110 9000", 6);
            fine(DESK + BOND + ";quote 0 20000110 1", 1);
            fine(DESK + BOND + ";quote 0 20000110 99999", 1);
            faultAt(DESK + BOND + ";quote 0 20000110 ^0", 2);
            faultAt(DESK + BOND + ";quote 0 20000110 ^100000", 2);
            faultAt(DESK + ";quote ^0 20000110 1" + BOND, 2);
            faultAt(DESK + BOND + ";quote ^1 20000110 1" + BOND, 2);
            fine(DESK + BOND + BOND + ";quote 1 20000110 1", 2);
            faultAt(DESK + BOND + ";quote ^99999999 20000110 1", 2);
        });
    }

    // ---- Term I: FAULTS

    private static final String[] WORDS = {"desk", "from", "cash", "holiday", "bond", "per", "thirty", "euro", "money",
        "fixed", "actual", "eom", "mature", "last", "issue", "first", "ex", "quote", "des", "x", "desks"};
    /** A text of all sorts, and for each of its TOKENS all those with which a DESK goes on there. */
    private static final String[][] GOES_ON = {
        {"desk", "desk holiday bond quote"}, {"from", "from"}, {"20000101", "1"}, {"cash", "cash"}, {"0", "1"},
        {";", "; end"},
        {"holiday", "desk holiday bond quote"}, {"20000103", "1"}, {";", "; end"},
        {"bond", "desk holiday bond quote"}, {"100", "1"}, {"per", "per"}, {"2", "1"},
        {"money", "thirty euro money fixed actual"}, {"eom", "eom mature"}, {"mature", "mature"}, {"20050630", "1"},
        {"last", "last issue"}, {"20041231", "1"}, {"issue", "issue"}, {"20000630", "1"},
        {"first", "first ex ; end"}, {"20010630", "1"}, {"ex", "ex ; end"}, {"3", "1"}, {";", "; end"},
        {"quote", "desk holiday bond quote"}, {"0", "1"}, {"20010101", "1"}, {"9900", "1"}, {"", "; end"}};

    private static void form() {
        edge("I", "1 FORM: the first byte that begins no TOKEN, or TOKEN with which no DESK goes on (the end: its place).", () -> {
            List<String> tried = new ArrayList<>(Arrays.asList(WORDS));
            tried.addAll(Arrays.asList("1", ";", "#", "abcdefgh", "123456789", "end"));
            StringBuilder ahead = new StringBuilder();
            for (String[] token : GOES_ON) {
                List<String> fits = Arrays.asList(token[1].split(" "));
                for (String next : tried) {
                    String text = ahead + (next.equals("end") ? "" : next);
                    if (!fits.contains(next)) {
                        fault(text, 1, ahead.length());
                        fault(text + " ", 1, next.equals("end") ? ahead.length() + 1 : ahead.length());
                    } else {
                        BondCalendars x = new BondCalendars();
                        tell(x, text);
                        dueTrue("not FORM there: " + text, x.where() != ahead.length() || x.fault() != 1);
                    }
                }
                ahead.append(token[0]).append(' ');
            }
            fine(ahead.toString(), 1);
            String text = ahead.toString();
            for (Matcher word = Pattern.compile("[a-z]+").matcher(text); word.find();) {
                for (int at = word.start(); at < word.end(); at++) {
                    char other = text.charAt(at) == 'z' ? 'a' : (char) (text.charAt(at) + 1);
                    fault(text.substring(0, at) + other + text.substring(at + 1), 1, word.start());
                    fault(text.substring(0, at) + text.substring(at + 1), 1, word.start());
                }
            }
        });
    }

    private static void bounds() {
        edge("I", "2 a WHOLE out of bounds, one that is no DATE, a BOND that isn't told; at it.", () -> {
            String[] noDates = {"0", "1", "99999999", "19791231", "20800101", "20000100", "20000001", "20000132", "20001301",
                "20000230", "20010229", "20000431", "20000631", "20000931", "20001131"};
            for (String no : noDates) {
                faultAt("desk from ^" + no + " cash 0", 2);
                faultAt(DESK + ";holiday ^" + no, 2);
                faultAt(DESK + ";bond 100 per 2 money mature ^" + no + " issue 20000110", 2);
                faultAt(LAST + "^" + no + " issue 20000110", 2);
                faultAt(ISSUE + "^" + no, 2);
                faultAt(ISSUE + "20000110 first ^" + no, 2);
                faultAt(DESK + BOND + ";quote 0 ^" + no + " 1", 2);
            }
            faultAt(DESK + ";bond ^2001 per 2", 2);
            faultAt(PER + "^3", 2);
            faultAt(ISSUE + "20000110 ex ^11", 2);
            faultAt(DESK + BOND + ";quote ^1", 2);
            faultAt(DESK + BOND + ";quote ^20000110 20000110 1", 2);
            faultAt(DESK + BOND + ";quote 0 20000110 ^0", 2);
        });
    }

    private static void again() {
        edge("I", "3 AGAIN: a second desk, at that WORD; a HOLIDAY told already, at it.", () -> {
            faultAt(DESK + ";^desk", 3);
            faultAt(DESK + "; ^" + DESK, 3);
            faultAt(DESK + BOND + ";^desk from 0", 3);
            faultAt(DESK + ";holiday 20000103;holiday ^20000103", 3);
            faultAt(DESK + ";holiday 20000103;holiday 20000104;holiday ^20000103", 3);
            faultAt(DESK + ";holiday 20000104;holiday 20000103" + BOND + ";holiday ^20000103", 3);
            fine(DESK + ";holiday 20000103;holiday 20000104;holiday 20000102", 0);
            // A HOLIDAY of a former text is told no more.
            BondCalendars x = of(DESK + ";holiday 20000103");
            due(x, "told anew", tell(x, DESK + ";holiday 20000103"), 0, 0);
        });
    }

    private static void oddLast() {
        edge("I", "4 ODD: a last that isn't earlier than mature,", () -> {
            fine(LAST + "20041231 issue 20000110", 1);
            faultAt(LAST + "^20050101 issue 20000110", 4);
            faultAt(LAST + "^20050102 issue 20000110", 4);
            faultAt(LAST + "^20791231 issue 20000110", 4);
        });
        edge("I", "or by which mature is later than the DATE three STEPS later than last;", () -> {
            fine(LAST + "20030701 issue 20000110", 1);
            faultAt(LAST + "^20030630 issue 20000110", 4);
            faultAt(LAST + "^19800101 issue 20000110", 4);
            String yearly = DESK + ";bond 100 per 1 money mature 20050101 last ";
            fine(yearly + "20020101 issue 20000110", 1);
            faultAt(yearly + "^20011231 issue 20000110", 4);
            String quarterly = DESK + ";bond 100 per 4 money mature 20050101 last ";
            fine(quarterly + "20040401 issue 20000110", 1);
            faultAt(quarterly + "^20040331 issue 20000110", 4);
            // Three STEPS later than a month's 31st: that month's last, if it has fewer.
            String halves = DESK + ";bond 100 per 2 money mature 20050228 last ";
            fine(halves + "20030831 issue 20000110", 1);
            fine(halves + "20030828 issue 20000110", 1);
            faultAt(halves + "^20030827 issue 20000110", 4);
            // Behind the latest DATE.
            fine(DESK + ";bond 100 per 1 money mature 20791231 last 20791230 issue 20000110", 1);
            fine(DESK + ";bond 100 per 1 money mature 20791231 last 20761231 issue 20000110", 1);
            faultAt(DESK + ";bond 100 per 1 money mature 20791231 last ^20761230 issue 20000110", 4);
            // It isn't called a GRID DATE: eom doesn't move it.
            String eom = DESK + ";bond 1 per 2 money eom mature ";
            fine(eom + "20020330 last 20000930 issue 20000110", 1);
            faultAt(eom + "20020331 last ^20000930 issue 20000110", 4);
        });
    }

    private static void oddIssue() {
        edge("I", "an issue that isn't earlier than the ANCHOR;", () -> {
            fine(ISSUE + "20041231", 1);
            faultAt(ISSUE + "^20050101", 4);
            faultAt(ISSUE + "^20050102", 4);
            faultAt(ISSUE + "^20791231", 4);
            fine(LAST + "20040701 issue 20040630", 1);
            faultAt(LAST + "20040701 issue ^20040701", 4);
            faultAt(LAST + "20040701 issue ^20041231", 4);
        });
    }

    private static void oddFirst() {
        edge("I", "a first that isn't a GRID DATE,", () -> {
            fine(ISSUE + "20000110 first 20000701", 1);
            faultAt(ISSUE + "20000110 first ^20000702", 4);
            faultAt(ISSUE + "20000110 first ^20000630", 4);
            faultAt(ISSUE + "20000110 first ^20001001", 4);
            String eom = DESK + ";bond 100 per 2 money eom mature 20050630 issue 20000110 first ";
            fine(eom + "20001231", 1);
            faultAt(eom + "^20001230", 4);
            fine(eom.replace("eom ", "") + "20001230", 1);
            faultAt(eom.replace("eom ", "") + "^20001231", 4);
            // GRID DATES are those of last, not of mature.
            fine(LAST + "20040815 issue 20000110 first 20000815", 1);
            faultAt(LAST + "20040815 issue 20000110 first ^20000701", 4);
        });
        edge("I", "isn't later than issue,", () -> {
            fine(ISSUE + "20000630 first 20000701", 1);
            faultAt(ISSUE + "20000701 first ^20000701", 4);
            faultAt(ISSUE + "20000702 first ^20000701", 4);
            faultAt(ISSUE + "20000702 first ^19800101", 4);
        });
        edge("I", "is later than the ANCHOR,", () -> {
            fine(ISSUE + "20040110 first 20050101", 1);
            faultAt(ISSUE + "20040110 first ^20050701", 4);
            fine(LAST + "20040701 issue 20040110 first 20040701", 1);
            faultAt(LAST + "20040701 issue 20040110 first ^20050101", 4);
        });
        edge("I", "or of which the GRID DATE three STEPS earlier is later than issue;", () -> {
            fine(ISSUE + "20000101 first 20010701", 1);
            faultAt(ISSUE + "19991231 first ^20010701", 4);
            faultAt(ISSUE + "20000110 first ^20020101", 4);
            String eom = DESK + ";bond 100 per 2 money eom mature 20050630 issue ";
            fine(eom + "19991231 first 20010630", 1);
            faultAt(eom + "19991230 first ^20010630", 4);
            fine(eom.replace("eom ", "") + "19991230 first 20010630", 1);
        });
    }

    private static void oddQuote() {
        edge("I", "a quote's DATE that is no SETTLE of its bond; at it.", () -> {
            fine(DESK + BOND + ";quote 0 20000110 1", 1);
            faultAt(DESK + BOND + ";quote 0 ^20000109 1", 4);
            fine(DESK + BOND + ";quote 0 20041231 1", 1);
            faultAt(DESK + BOND + ";quote 0 ^20050101 1", 4);
            String other = ";bond 100 per 1 money mature 20100101 issue 20060101";
            fine(DESK + BOND + other + ";quote 1 20060101 1", 2);
            faultAt(DESK + BOND + other + ";quote 0 ^20060101 1", 4);
            faultAt(DESK + BOND + other + ";quote 1 ^20000110 1", 4);
            // Behind last it may be, ahead of mature.
            fine(LAST + "20040701 issue 20000110;quote 0 20041231 1", 1);
            // A DATE ahead of the DESK's own may be quoted.
            fine("desk from 20300101 cash 0" + BOND + ";quote 0 20000110 1", 1);
        });
    }

    private static void tooLong() {
        edge("I", "5 LONG: an issue by which there are more than 80 GRID DATES later than it up to the ANCHOR, at it.", () -> {
            String quarters = DESK + ";bond 100 per 4 money mature 20050101 issue ";
            fine(quarters + "19850101", 1);
            faultAt(quarters + "^19841231", 5);
            faultAt(quarters + "^19800101", 5);
            String halves = DESK + ";bond 100 per 2 money mature 20300101 issue ";
            fine(halves + "19900101", 1);
            faultAt(halves + "^19891231", 5);
            String years = DESK + ";bond 100 per 1 money mature 20791231 issue ";
            fine(years + "19991231", 1);
            faultAt(years + "^19991230", 5);
            // Counted up to the ANCHOR, not to mature; a first doesn't help, as it comes behind.
            String last = DESK + ";bond 100 per 4 money mature 20050401 last 20050101 issue ";
            due("81 PERIODS", of(last + "19850101").bond(0, 8), 81);
            faultAt(last + "^19841231", 5);
            faultAt(quarters + "^19841231 first 19850701", 5);
        });
    }

    private static void many() {
        edge("I", "6 MANY: a LINE more of its sort than there is room for, at its first WORD.", () -> {
            StringBuilder bonds = new StringBuilder(DESK);
            StringBuilder holidays = new StringBuilder(DESK);
            StringBuilder quotes = new StringBuilder(DESK + BOND);
            for (int i = 0; i < 10; i++) {
                bonds.append(i < 4 ? BOND : "");
                quotes.append(i < 6 ? ";quote 0 20000110 1" : "");
                holidays.append(";holiday ").append(20000110 + i);
            }
            faultAt(bonds + ";^bond", 6);
            faultAt(bonds + ";^bond 2001", 6);
            faultAt(bonds + ";holiday 20000103; ^" + BOND.substring(1), 6);
            faultAt(quotes + ";^quote", 6);
            faultAt(quotes + ";^quote 7", 6);
            faultAt(holidays + ";^holiday", 6);
            faultAt(holidays + ";  ^holiday 20000110", 6);
            faultAt(holidays + ";^holiday 20000101", 6);
            // Each sort has its own room.
            fine(holidays + bonds.substring(DESK.length()) + quotes.substring(DESK.length() + BOND.length()), 4);
        });
    }

    private static void lacks() {
        edge("I", "7 LACKS: any LINE ahead of the desk; at its WORD; at the end: no desk.", () -> {
            faultAt("^holiday 20000103;" + DESK, 7);
            faultAt("^" + BOND.substring(1) + ";" + DESK, 7);
            faultAt("   ^quote 0 20000110 1;" + DESK, 7);
            faultAt("^holiday", 7);
            faultAt("^bond 2001", 7);
            // At the end a text without a LINE is FORM as well, which is the least number there.
            faultAt("^", 1);
            faultAt("   ^", 1);
        });
    }

    private static void leastOfAll() {
        edge("I", "FAULTS, the first that is met from the left, of one place the least number:", () -> {
            // From the left: any of them ahead of any other.
            faultAt("desk ^zzz 19791231", 1);
            faultAt("desk from ^19791231 zzz", 2);
            faultAt(DESK + ";^desk zzz", 3);
            faultAt(DESK + ";holiday 20000103;holiday ^20000103 zzz", 3);
            faultAt(LAST + "^20050101 zzz", 4);
            faultAt(LAST + "^20050101 issue 0", 4);
            faultAt(ISSUE + "^20050101 first 0", 4);
            faultAt(DESK + BOND + ";quote 0 ^20000109 0", 4);
            faultAt(DESK + ";bond 100 per 4 money mature 20050101 issue ^19800101 zzz", 5);
            faultAt(DESK + BOND + BOND + BOND + BOND + ";^bond zzz", 6);
            faultAt("^holiday zzz", 7);
            faultAt(DESK + ";bond ^2001 per 3 zzz", 2);
            faultAt(DESK + ";bond 100 ^zzz;holiday 0", 1);
            // One place: FORM and LACKS (no desk); AGAIN and MANY (a desk more); no DATE and ODD.
            faultAt("^", 1);
            faultAt(DESK + ";^desk", 3);
            faultAt(LAST + "^20050230", 2);
            faultAt(ISSUE + "^20050230", 2);
            faultAt(ISSUE + "20000110 first ^20000730", 4);
            faultAt(ISSUE + "20000110 first ^20000732", 2);
            faultAt(DESK + BOND + ";quote 0 ^20050230 1", 2);
            faultAt(DESK + BOND + ";quote 0 ^0 1", 2);
        });
    }

    // ---- promises 1 to 5

    private static void newObject() {
        edge("1", "No DESK.", () -> {
            BondCalendars x = new BondCalendars();
            due("trouble()", x.trouble(), 0);
            due("fault()", x.fault(), 0);
            due("where()", x.where(), -1);
            for (int what = 0; what <= 4; what++) {
                due("size(" + what + ")", x.size(what), 0);
            }
            due(x, "bond(0, 0)", x.bond(0, 0), -1, 1);
            due(x, "now()", x.now(), -1, 1);
            due(x, "flat()", x.flat(), -1, 1);
            due(x, "keep()", x.keep() ? 1 : 0, 0, 1);
            due(x, "back()", x.back() ? 1 : 0, 0, 1);
            // One object's DESK is not another's.
            BondCalendars other = of(DESK + BOND);
            due(x, "bond(0, 0), another object having one", x.bond(0, 0), -1, 1);
            due("its", other.bond(0, 0), 100);
        });
    }

    private static void feed() {
        edge("2", "Twenty bytes come behind THE TAPE, of each number the highest first: how many it has;", () -> {
            for (int at = 0; at < 40; at++) {
                String blanks = " ".repeat(40);
                String text = blanks.substring(0, at) + "#" + blanks.substring(at + 1);
                fault(text, 1, at);
            }
            BondCalendars x = new BondCalendars();
            due("feed of all bits", x.feed(-1, -1, -1, -1, -1), 20);
            due("feed of none", x.feed(0, 0, 0, 0, 0), 40);
            due("feed of extremes", x.feed(Integer.MIN_VALUE, Integer.MAX_VALUE, 0, 1, 255), 60);
            due("size(3)", x.size(3), 60);
        });
        edge("2", "NONE, and none comes, if there would be more than 900.", () -> {
            BondCalendars x = new BondCalendars();
            put(x, DESK + " ".repeat(880 - DESK.length()));
            due("the last that has room", x.feed(0x20202020, 0x20202020, 0x20202020, 0x20202020, 0x20202020), 900);
            due("one more", x.feed(0x23232323, 0x23232323, 0x23232323, 0x23232323, 0x23232323), -1);
            due("and one more", x.feed(0, 0, 0, 0, 0), -1);
            due("size(3)", x.size(3), 900);
            due("the text as it was", x.desk(900), 0);
            due("room again", x.feed(0, 0, 0, 0, 0), 20);
        });
    }

    private static void desk() {
        String told = "desk from 20000101 cash 123;holiday 20000103" + BOND + ";quote 0 20000110 9000";
        edge("3", "The first n bytes of THE TAPE (it is empty then) are the DESK from now on (nothing held, nothing kept): how many bonds.", () -> {
            BondCalendars x = new BondCalendars();
            put(x, told + ";###################");
            due(x, "desk of the first bytes", x.desk(told.length()), 1, 0);
            due("empty then", x.size(3), 0);
            due("go", x.go(9), 0);
            due("deal", x.deal(0, 5, 100), 500);
            dueTrue("keep", x.keep());
            due("go on to EX, a Saturday", x.go(173), 0);
            due("ENTITLED", x.period(0, 0, 6), 5);
            due(x, "a DESK anew", tell(x, told), 1, 0);
            due("empty then", x.size(3), 0);
            due("nothing held", x.holding(0), 0);
            due("nobody ENTITLED", x.period(0, 0, 6), 0);
            due("nothing kept", x.size(4), 0);
            due(x, "back()", x.back() ? 1 : 0, 0, 1);
            due("NOW", x.now(), 20000101);
            due("CASH", x.cash(), 123);
            due(x, "without bonds", tell(x, DESK), 0, 0);
            due("no bond", x.size(0), 0);
            due("no quote", x.size(1), 0);
            due("no HOLIDAY", x.size(2), 0);
            due("a BUSINESS DAY that was a HOLIDAY", x.business(20000103), 1);
            due("all of THE TAPE", tell(x, DESK + "               "), 0);
            behindOthers();
        });
        edge("3", "NONE: 2 (THE TAPE stays);", () -> {
            BondCalendars x = new BondCalendars();
            due(x, "desk(1) of none", x.desk(1), -1, 2);
            put(x, told);
            int size = x.size(3);
            due(x, "desk(-1)", x.desk(-1), -1, 2);
            due(x, "one byte too many", x.desk(size + 1), -1, 2);
            for (int n : FAR) {
                due(x, "desk(" + n + ")", x.desk(n), -1, 2);
            }
            due(x, "desk(901)", x.desk(901), -1, 2);
            due("it stays", x.size(3), size);
            due(x, "and is told", x.desk(told.length()), 1, 0);
            put(x, "   ");
            due(x, "desk(21)", x.desk(21), -1, 2);
            due("the DESK stays, too", x.size(0), 1);
        });
        edge("3", "4 (the DESK stays).", () -> {
            BondCalendars x = of(told);
            x.go(9);
            x.deal(0, 5, 100);
            x.keep();
            x.go(173);
            long cash = x.cash();
            int flat = x.flat();
            String[] faulty = {"", "desk", "desk from 20100101 cash 5;bond 7 per 1 euro mature 20790101 issue 20780101 ex 11",
                "desk from 20100101 cash 5;holiday 20000104" + BOND + BOND + ";quote 1 20000110 9000;quote 2"};
            for (String text : faulty) {
                due(x, "desk(" + text + ")", tell(x, text), -1, 4);
                due("THE TAPE is empty", x.size(3), 0);
                due("bonds", x.size(0), 1);
                due("quotes", x.size(1), 1);
                due("HOLIDAYS", x.size(2), 1);
                due("the HOLIDAY", x.holiday(0), 20000103);
                due("kept", x.size(4), 1);
                due("RATE", x.bond(0, 0), 100);
                due("mature", x.bond(0, 3), 20050101);
                due("PERIODS", x.bond(0, 8), 10);
                due("GRID", x.grid(0, -1), 20040701);
                due("quote", x.quote(0, 2), 9000);
                due("NOW", x.now(), 20000701);
                due("CASH", x.cash(), cash);
                due("held", x.holding(0), 5);
                due("ENTITLED", x.period(0, 0, 6), 5);
                due("flat", x.flat(), flat);
            }
            dueTrue("back", x.back());
            due("NOW as kept", x.now(), 20000110);
            due(x, "desk(0): an empty text", x.desk(0), -1, 4);
        });
    }

    /** What a DESK tells has nothing of those before it, though they had more of everything. */
    private static void behindOthers() {
        String long81 = ";bond 2000 per 4 fixed eom mature 20050102 last 20050101 issue 19850101 ex 10";
        StringBuilder big = new StringBuilder("desk from 19990101 cash 99999999" + long81 + long81 + long81 + long81);
        for (int i = 0; i < 10; i++) {
            big.append(i < 6 ? ";quote 3 20000110 1" : "").append(";holiday ").append(20000110 + i);
        }
        String small = "desk from 20000109 cash 7;holiday 20000112" + BOND + ";quote 0 20000110 9000";
        BondCalendars old = new BondCalendars();
        for (int i = 0; i < 4; i++) {
            due("a big DESK", tell(old, big.toString()), 4);
            for (int b = 0; b < 4; b++) {
                old.deal(b, 99, 1);
            }
            old.go(4000);
            old.flat();
            old.keep();
        }
        due("the small DESK", tell(old, small), 1);
        same(old, of(small));
        due("a bond more", tell(old, small + BOND), 2);
        same(old, of(small + BOND));
    }

    private static void same(BondCalendars old, BondCalendars fresh) {
        for (int what = 0; what < 9; what++) {
            due("size", old.size(what), fresh.size(what));
            due("bond", old.bond(0, what), fresh.bond(0, what));
            due("quote", old.quote(what, 0), fresh.quote(what, 0));
            for (int k = 0; k < 12; k++) {
                due("period", old.period(0, k, what), fresh.period(0, k, what));
            }
        }
        due("flat", old.flat(), fresh.flat());
        due("off", old.off(7), fresh.off(7));
        due("cheapest", old.cheapest(), fresh.cheapest());
        due("dirty", old.dirty(0, 20000110, 7), fresh.dirty(0, 20000110, 7));
        due("go", old.go(1), fresh.go(1));
        due("deal", old.deal(0, 10, 100), fresh.deal(0, 10, 100));
        due("worth", old.worth(7), fresh.worth(7));
        due("go on", old.go(1000), fresh.go(1000));
        due("worth", old.worth(7), fresh.worth(7));
        due("go to the end", old.go(4000), fresh.go(4000));
        due("cash", old.cash(), fresh.cash());
    }

    private static void faultAndWhere() {
        edge("4", "The FAULT of the latest desk() not refused by 2; 0 without one.", () -> {
            BondCalendars x = new BondCalendars();
            due("without a desk()", x.fault(), 0);
            due("desk(1)", x.desk(1), -1);
            due("refused by 2", x.fault(), 0);
            tell(x, "holiday");
            due("LACKS", x.fault(), 7);
            due("desk(1)", x.desk(1), -1);
            due("refused by 2 stays as it was", x.fault(), 7);
            x.weekday(0);
            x.weekday(20000101);
            due("other calls leave it", x.fault(), 7);
            tell(x, DESK);
            due("none", x.fault(), 0);
            due("desk(-1)", x.desk(-1), -1);
            due("none still", x.fault(), 0);
            tell(x, "desk");
            due("FORM", x.fault(), 1);
        });
        edge("5", "Its place, if the latest call that may be refused was by 4; NONE else.", () -> {
            BondCalendars x = new BondCalendars();
            due("at first", x.where(), -1);
            tell(x, "desk from x");
            due("its place", x.where(), 10);
            x.fault();
            x.trouble();
            x.size(3);
            x.feed(0, 0, 0, 0, 0);
            due("asked again, behind calls that tell no number", x.where(), 10);
            due("a call that isn't refused", x.weekday(20000101), 5);
            due("where() then", x.where(), -1);
            x.desk(0);
            due("place 0", x.where(), 0);
            due("refused otherwise", x.weekday(0), -1);
            due("where() then", x.where(), -1);
            x.desk(0);
            due("refused by 2", x.desk(1), -1);
            due("where() then", x.where(), -1);
            x.desk(0);
            tell(x, DESK);
            due("behind a good one", x.where(), -1);
        });
    }
}
