import java.util.NoSuchElementException;
import java.util.Random;

/** Whatever is asked, in whatever state: nothing but holiday's NoSuchElementException ever comes out, and calls end. */
public final class GarbageTest {
    private static final int[] EDGES = {Integer.MIN_VALUE, Integer.MIN_VALUE + 1, -20000101, -10001, -2001, -2000, -121,
        -91, -90, -61, -60, -1, 0, 1, 2, 3, 4, 5, 6, 7, 8, 9, 10, 11, 60, 61, 80, 81, 120, 121, 900, 901, 2000, 2001, 4000,
        4001, 9999, 10000, 10001, 99999, 100000, 19791231, 19800101, 20000229, 20000930, 20001001, 20010229, 20010320,
        20050615, 20791231, 20800101, Integer.MAX_VALUE - 1, Integer.MAX_VALUE};
    private static final String[] PIECES = {"desk from 20000901 cash 1000000", "holiday 20001002", "holiday 20000928",
        "bond 500 per 1 actual mature 20050615 issue 20030615", "bond 0 per 4 euro mature 20791231 issue 20791230 ex 10",
        "bond 2000 per 1 money mature 20791231 issue 19991231 ex 10", "bond 1 per 4 thirty mature 20010320 last 20010131 issue 20000731",
        "bond 360 per 2 fixed eom mature 20000930 issue 20000110 first 20000930 ex 5", "quote 0 20030615 10000",
        "quote 1 20791230 9900", "quote 0 20000101 1", "desk", "bond", "\u0080\u00ff", "   ", "999999999", "zzzzzzzz"};

    private final Random random;
    private BondCalendars x;

    private GarbageTest(long seed) {
        random = new Random(seed);
    }

    public static void main(String[] args) {
        int runs = args.length > 0 ? Integer.parseInt(args[0]) : 300;
        for (int run = 0; run < runs; run++) {
            try {
                new GarbageTest(run).play();
            } catch (RuntimeException e) {
                System.out.println("run " + run + " threw " + e);
                e.printStackTrace(System.out);
                System.exit(1);
            }
        }
        System.out.println(runs + " runs threw nothing");
    }

    private void play() {
        x = new BondCalendars();
        for (int calls = 0; calls < 512; ) {
            if (random.nextInt(60) == 0 || calls == 40) {
                calls += tell();
            } else {
                ask(random.nextInt(43));
                calls++;
            }
        }
    }

    private int any() {
        return random.nextInt(8) == 0 ? random.nextInt() : EDGES[random.nextInt(EDGES.length)];
    }

    private int few() {
        return random.nextInt(4) == 0 ? any() : random.nextInt(4);
    }

    private int tell() {
        StringBuilder text = new StringBuilder(random.nextInt(8) == 0 ? "" : PIECES[0]);
        int pieces = random.nextInt(9);
        for (int i = 0; i < pieces; i++) {
            text.append(";").append(PIECES[1 + random.nextInt(random.nextInt(6) == 0 ? PIECES.length - 1 : 9)]);
        }
        int n = Math.min(text.length(), 900);
        x.desk(0);
        int calls = 2;
        for (int at = 0; at < n; at += 20) {
            int[] w = new int[5];
            for (int i = 0; i < 20; i++) {
                w[i / 4] = w[i / 4] << 8 | (at + i < n ? text.charAt(at + i) : random.nextInt(256));
            }
            x.feed(w[0], w[1], w[2], w[3], w[4]);
            calls++;
        }
        x.desk(random.nextInt(9) == 0 ? x.size(3) : n);
        return calls;
    }

    private void ask(int which) {
        if (which < 20) {
            askFirst(which);
        } else {
            askRest(which);
        }
    }

    private void askFirst(int which) {
        boolean flag = random.nextBoolean();
        switch (which) {
            case 0: x.feed(any(), any(), any(), any(), any()); break;
            case 1: x.desk(any()); break;
            case 2: x.fault(); break;
            case 3: x.where(); break;
            case 4: x.days(any(), any()); break;
            case 5: x.weekday(any()); break;
            case 6: x.months(any(), any(), flag); break;
            case 7: x.business(any()); break;
            case 8: x.businessFrom(any(), any()); break;
            case 9: x.counted(few(), any(), any(), flag); break;
            case 10: x.bond(few(), any()); break;
            case 11: x.grid(few(), any()); break;
            case 12: x.period(few(), any(), any()); break;
            case 13: x.fraction(few(), any(), flag); break;
            case 14: x.coupon(few(), any(), flag); break;
            case 15: x.line(few(), any()); break;
            case 16: x.sign(few(), few(), any()); break;
            case 17: x.current(few(), any()); break;
            case 18: x.isEx(few(), any()); break;
            default: x.accrued(few(), any(), flag);
        }
    }

    private void askRest(int which) {
        boolean flag = random.nextBoolean();
        switch (which) {
            case 20: x.rest(few(), any(), flag); break;
            case 21: x.dirty(few(), any(), any()); break;
            case 22: x.clean(few(), any(), any()); break;
            case 23: x.risk(few(), any(), any()); break;
            case 24: x.bracket(few(), any(), any(), any(), flag); break;
            case 25: x.narrows(few(), any(), any()); break;
            case 26: x.pointsAt(few(), any(), any()); break;
            case 27: x.quote(few(), few()); break;
            case 28: x.off(any()); break;
            case 29: x.flat(); break;
            case 30: x.cheapest(); break;
            case 31: x.now(); break;
            case 32: x.cash(); break;
            case 33: x.holding(few()); break;
            case 34: x.worth(any()); break;
            case 35: x.deal(few(), any(), any()); break;
            case 36: x.go(any()); break;
            case 37: x.income(any()); break;
            case 38: x.keep(); break;
            case 39: x.back(); break;
            case 40: askHoliday(any()); break;
            case 41: x.size(any()); break;
            default: x.trouble();
        }
    }

    private void askHoliday(int i) {
        try {
            x.holiday(i);
        } catch (NoSuchElementException e) {
            // this one is promised
        }
    }
}
