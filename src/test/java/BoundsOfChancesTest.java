import java.math.BigInteger;

/** The bounds that promises 22 to 28 name: what is asked, tickets, rests, sales, the seed and its years. */
public final class BoundsOfChancesTest {
    private static final Check CHECK = new Check();
    private static final long FACTOR = 6364136223846793005L, STEP = 1442695040888963407L;

    public static void main(String[] args) {
        asked();
        sixAsked();
        unasked();
        whatIsTold();
        duesOfTickets();
        daysOfTickets();
        leastTicket();
        restsRefused();
        restsByFive();
        restsByTheTill();
        restsOfNothing();
        restsOfTheDearest();
        salesRefused();
        tenths();
        keepsakesAreSold();
        atLeastSoMany();
        salesOfNothing();
        salesOfAll();
        seeds();
        seedsWrap();
        thingsOfAYear();
        timesOfYears();
        yearsRefused();
        CHECK.end();
    }

    private static void due(String promise, long got, long want) {
        CHECK.due("promise " + promise, got, want);
    }

    // ---- promises 22 to 24

    /** "v (0 .. 30) was DUE on DAY t (0 .. 8)". */
    private static void asked() {
        for (int t = -1; t <= 9; t++) {
            for (int v = -1; v <= 31; v++) {
                PluckBroker broker = new PluckBroker();
                boolean good = t >= 0 && t <= 8 && v >= 0 && v <= 30;
                due("22: ask " + t + ", " + v, broker.ask(t, v), good ? 1 : -2);
                due("22: ASKED", broker.about(11), good ? 1 : 0);
            }
        }
        PluckBroker broker = new PluckBroker();
        for (int t : Check.outside(0, 8)) {
            due("22: t " + t, broker.ask(t, 5), -2);
        }
        for (int v : Check.outside(0, 30)) {
            due("22: v " + v, broker.ask(5, v), -2);
        }
        due("22: nothing is ASKED", broker.about(11), 0);
        due("22: nothing is ASKED, all fit", broker.tickets(0), 36);
    }

    /** "6 such at most, none at first"; "BAD: t, v; FULL: 6". */
    private static void sixAsked() {
        PluckBroker broker = new PluckBroker();
        due("22: none at first", broker.about(11), 0);
        for (int i = 1; i <= 6; i++) {
            due("22: the same, " + i, broker.ask(8, 17), i);
            due("6: ASKED " + i, broker.about(11), i);
        }
        due("22: the seventh", broker.ask(8, 17), -4);
        due("22: the seventh, another", broker.ask(0, 1), -4);
        for (int bad : Check.outside(0, 8)) {
            due("22: BAD goes ahead: t " + bad, broker.ask(bad, 17), -2);
        }
        for (int bad : Check.outside(0, 30)) {
            due("22: BAD goes ahead: v " + bad, broker.ask(8, bad), -2);
        }
        due("22: six yet", broker.about(11), 6);
        due("22: as they were", broker.tickets(0), 3);
        // the sixth counts, the seventh does not
        broker = new PluckBroker();
        for (int i = 0; i < 5; i++) {
            broker.ask(0, 4);
        }
        due("24: by five", broker.tickets(0), 4);
        broker.ask(1, 6);
        due("24: by six", broker.tickets(1), 14);
        broker.ask(1, 7);
        due("24: by no seventh", broker.tickets(1), 14);
    }

    /** "how much there was": 0, 1, 6; and as many again behind it. */
    private static void unasked() {
        for (int many = 0; many <= 6; many++) {
            PluckBroker broker = new PluckBroker();
            for (int i = 0; i < many; i++) {
                broker.ask(0, 0);
            }
            due("23: unask", broker.unask(), many);
            due("23: nothing is ASKED", broker.about(11), 0);
            due("23: all fit", broker.tickets(0), 36);
            due("23: unask again", broker.unask(), 0);
            for (int i = 1; i <= 6; i++) {
                due("23: as many as ever", broker.ask(0, 9), i);
            }
            due("23: and no more", broker.ask(0, 9), -4);
            due("23: the old ones do not count", broker.tickets(1), 9);
        }
    }

    /** "how many (what = 0), the first one (1)"; BAD. */
    private static void whatIsTold() {
        PluckBroker broker = new PluckBroker();
        due("24: all of them", broker.tickets(0), 36);
        due("24: the least of all", broker.tickets(1), 1);
        for (int what : Check.outside(0, 1)) {
            due("24: what " + what, broker.tickets(what), -2);
        }
        broker.ask(0, 0);
        due("24: none", broker.tickets(0), 0);
        due("24: NONE", broker.tickets(1), -9);
        for (int what : Check.outside(0, 1)) {
            due("24: none, what " + what, broker.tickets(what), -2);
        }
    }

    private static void tickets(int t, int v, int many, int first) {
        PluckBroker broker = new PluckBroker();
        broker.ask(t, v);
        due("24: " + v + " on DAY " + t + ", how many", broker.tickets(0), many);
        due("24: " + v + " on DAY " + t + ", the first one", broker.tickets(1), first);
    }

    /** WORTHS of 1 .. 9: on DAY 0 as much is DUE by each KIND; the least and the most that can be DUE. */
    private static void duesOfTickets() {
        for (int v = 0; v <= 30; v++) {
            boolean worth = v >= 1 && v <= 9;
            tickets(0, v, worth ? 4 : 0, worth ? v : -9);
        }
        // a KEEPSAKE of 1 is the least of DAY 8, a CLAIM of 9 the most
        tickets(8, 0, 0, -9);
        tickets(8, 1, 1, 31);
        tickets(8, 8, 1, 38);
        tickets(8, 9, 3, 1);
        tickets(8, 10, 2, 2);
        tickets(8, 16, 2, 8);
        tickets(8, 17, 3, 9);
        tickets(8, 18, 1, 12);
        tickets(8, 25, 1, 19);
        tickets(8, 26, 0, -9);
        tickets(8, 30, 0, -9);
    }

    /** The DAY 6 is a SATURDAY: a PLUCK is DUE by its WORTH then; on 5 and 7 it is not. */
    private static void daysOfTickets() {
        for (int t = 0; t <= 8; t++) {
            for (int v = 0; v <= 30; v++) {
                int many = 0;
                int first = -9;
                for (int ticket = 39; ticket >= 1; ticket--) {
                    int worth = ticket % 10;
                    int[] owed = {worth + t, worth + t + t, t == 6 ? worth : worth + t, worth};
                    if (worth > 0 && owed[ticket / 10] == v) {
                        many++;
                        first = ticket;
                    }
                }
                tickets(t, v, many, first);
            }
        }
        tickets(5, 6, 3, 1);
        tickets(6, 1, 2, 21);
        tickets(7, 8, 3, 1);
    }

    /** "the least one (10 times KIND and WORTH)": the KIND goes ahead of the WORTH. */
    private static void leastTicket() {
        tickets(1, 3, 4, 2);
        tickets(2, 3, 3, 1);
        tickets(1, 1, 1, 31);
        tickets(1, 2, 3, 1);
        tickets(1, 10, 3, 9);
        tickets(1, 11, 1, 19);
        PluckBroker broker = new PluckBroker();
        broker.ask(0, 9);
        broker.ask(6, 9);
        due("24: PLUCK or KEEPSAKE of 9", broker.tickets(1), 29);
        broker.ask(7, 9);
        due("24: KEEPSAKE of 9", broker.tickets(1), 39);
        broker.ask(7, 10);
        due("24: NONE", broker.tickets(1), -9);
    }

    // ---- promise 25

    /** "UNKNOWN: both; BAD: both are one, what." */
    private static void restsRefused() {
        for (int persons = 0; persons <= 3; persons++) {
            PluckBroker broker = Check.shop("B0P0P0P0".substring(0, 2 + 2 * persons));
            for (int one = -1; one <= 3; one++) {
                for (int other = -1; other <= 3; other++) {
                    boolean known = one >= 0 && one < persons && other >= 0 && other < persons;
                    int refused = known ? -2 : -1;
                    String told = "25: rests " + one + ", " + other + " of " + persons;
                    due(told + ", 0", broker.rests(one, other, 0), known && one != other ? 4 : refused);
                    due(told + ", 1", broker.rests(one, other, 1), known && one != other ? 0 : refused);
                    due(told + ", 2", broker.rests(one, other, 2), refused);
                    due(told + ", -1", broker.rests(one, other, -1), refused);
                }
            }
        }
        PluckBroker broker = Check.shop("B0P0P0P0");
        for (int bad : Check.outside(0, 2)) {
            due("25: rests " + bad + ", 0", broker.rests(bad, 0, 0), -1);
            due("25: rests 0, " + bad, broker.rests(0, bad, 0), -1);
            due("25: rests " + bad + ", " + bad, broker.rests(bad, bad, 2), -1);
        }
        for (int what : Check.outside(0, 1)) {
            due("25: what " + what, broker.rests(0, 2, what), -2);
            due("25: both are one, what " + what, broker.rests(2, 2, what), -2);
        }
    }

    private static void rests(PluckBroker broker, int one, int other, int many, int first) {
        due("25: rests " + one + " " + other + ", how many", broker.rests(one, other, 0), many);
        due("25: rests " + one + " " + other + ", the least", broker.rests(one, other, 1), first);
    }

    private static void rests(String text, int many, int first) {
        rests(Check.shop(text), 0, 1, many, first);
    }

    /** "less 5 for each of its DEEDS that is not DONE": one COIN less, as many, one more. */
    private static void restsByFive() {
        rests("B9P0P0Q040Q140D000D100", 1, 0);
        rests("B9P0P0Q050Q150D000D100", 4, 0);
        rests("B9P0P0Q060Q160D000D100", 1, 11);
        rests("B9P0P0Q040Q150D000D100", 2, 0);
        rests("B9P0P0Q050Q140D000D100", 2, 0);
        rests("B9P0P0Q060Q150D000D100", 2, 10);
        rests("B9P0P0Q050Q160D000D100", 2, 1);
        rests("B9P0P0Q040Q160D000D100", 1, 1);
        rests("B9P0P0Q060Q140D000D100", 1, 10);
        rests("B9P0P0Q090Q190D000D000D100D100", 1, 0);
        // the last DAY of a DEED counts as well; its COINS do not, "ahead of any DAY"
        rests("B9P0P0Q040Q140D090D190", 1, 0);
        rests("B9P0P0Q060Q160D099D199", 1, 11);
        rests("B9P0P0Q050Q150D099D199", 4, 0);
        // behind DAY 9 there is nothing to lose
        rests(Check.shop("B9P0P0Q010Q110D090D190", "d9"), 0, 1, 1, 0);
        rests(Check.shop("B9P0P0Q010Q110D090D190", "d9 d"), 0, 1, 1, 11);
    }

    /** "the one first (where it can not, it does not)": THE TILL has as much as both, one less, as one, less. */
    private static void restsByTheTill() {
        rests("B2P0P0Q040Q140", 1, 11);
        rests("B2P0P0Q050Q140", 2, 10);
        rests(Check.shop("B2P0P0Q050Q140"), 1, 0, 2, 10);
        rests("B1P0P0Q040Q140", 2, 10);
        rests("B1P0P0Q050Q140", 2, 1);
        rests("B1P0P0Q040Q150", 2, 10);
        rests("B1P0P0Q050Q150", 4, 0);
        rests("B0P0P0Q010Q110", 4, 0);
        // the one would lose by it: then the other one can
        rests("B1P0P0Q040Q140D000", 1, 1);
        rests(Check.shop("B1P0P0Q040Q140D000"), 1, 0, 2, 10);
    }

    /** Nobody has a QUALITY that is HAD: all four are at rest; the third PERSON is left out of it. */
    private static void restsOfNothing() {
        rests("B9P0P0", 4, 0);
        rests("B9P9P0Q010", 2, 10);
        rests("B9P0P9Q110", 2, 1);
        rests(Check.shop("B9P0P0Q010Q110", "p0 p1"), 0, 1, 4, 0);
        rests(Check.shop("B9P0P0Q010Q110", "p0 p1 d9"), 0, 1, 4, 0);
        rests(Check.shop("B9P0P0Q010Q110", "p0 p1 d9 g09"), 0, 1, 4, 0);
        PluckBroker broker = Check.shop("B9P0P0P0Q290D000");
        rests(broker, 0, 1, 4, 0);
        rests(broker, 0, 2, 2, 1);
        rests(broker, 2, 0, 2, 10);
        rests(broker, 1, 2, 2, 1);
    }

    /** "the QUALITY of most WORTH of its own that is HAD (of like ones the least)". */
    private static void restsOfTheDearest() {
        // the dearest is the last of five, and costs three DEEDS
        rests("B9P0P0Q010Q020Q030Q040Q090D400D400D400", 2, 0);
        rests("B9P0P0Q090Q040Q030Q020Q010D400D400D400", 2, 10);
        // of two like ones the one with the less number, which costs two
        rests("B9P0P0Q090Q090D000D000", 2, 0);
        rests("B9P0P0Q090Q090D100D100", 2, 10);
        // PLEDGED already: the next one
        rests(Check.shop("B9P0P0Q090Q080D100D100", "p0"), 0, 1, 2, 0);
        // SOLD: the next one
        rests(Check.shop("B9P0P0Q090Q080D190D190", "p0 d9"), 0, 1, 2, 0);
        // too dear for THE TILL: not another one in its place
        rests("B2P0P0Q090Q080", 4, 0);
        rests("B2P0P0Q080Q090", 4, 0);
        rests("B2P0P0Q080Q070", 2, 10);
    }

    // ---- promise 26

    private static void sales(PluckBroker broker, int m, int x, int upper, int lower) {
        due("26: sales " + m + " " + x + ", above", broker.sales(m, x, true), upper);
        due("26: sales " + m + " " + x + ", below", broker.sales(m, x, false), lower);
    }

    /** "m (0 .. 5)", "x tenths (0 .. 10)"; BAD. */
    private static void salesRefused() {
        PluckBroker broker = Check.shop("B9P0Q010D000", "p0");
        for (int m = -1; m <= 6; m++) {
            for (int x = -1; x <= 11; x++) {
                boolean good = m >= 0 && m <= 5 && x >= 0 && x <= 10;
                due("26: below, " + m + ", " + x, broker.sales(m, x, false) > 0 ? 1 : -2, good ? 1 : -2);
                due("26: above, " + m + ", " + x, broker.sales(m, x, true) >= 0 ? 1 : -2, good ? 1 : -2);
            }
        }
        for (int m : Check.outside(0, 5)) {
            due("26: m " + m, broker.sales(m, 5, true), -2);
        }
        for (int x : Check.outside(0, 10)) {
            due("26: x " + x, broker.sales(0, x, true), -2);
        }
    }

    /** Each x of 0 .. 10, in least terms: 0 is 0 of 1, all is 1 of 1. */
    private static void tenths() {
        int[] upper = {1, 9, 4, 7, 3, 1, 2, 3, 1, 1, 0};
        int[] lower = {1, 10, 5, 10, 5, 2, 5, 10, 5, 10, 1};
        for (int kind = 0; kind <= 3; kind++) {
            for (int x = 0; x <= 10; x++) {
                PluckBroker broker = Check.shop("B9P0Q01" + kind + "D090", "p0");
                sales(broker, 1, x, upper[x], lower[x]);
                sales(broker, 0, x, 1, 1);
                sales(broker, 2, x, 0, 1);
            }
        }
    }

    /** "each QUALITY that is PLEDGED", of whatever KIND: a KEEPSAKE, too, that no number of DAYS sells. */
    private static void keepsakesAreSold() {
        PluckBroker broker = Check.shop("B9P0Q013Q020D090D190", "p0 p1 d9");
        due("26: SOLD by nine DAYS", broker.about(7), 2);
        due("26: PLEDGED for nine DAYS", broker.about(6), 1);
        for (int x = 0; x <= 10; x++) {
            due("26: by tenths of " + x, 10 * broker.sales(1, x, true), (10 - x) * broker.sales(1, x, false));
            sales(broker, 2, x, 0, 1);
        }
        sales(broker, 1, 3, 7, 10);
        due("26: nothing is SOLD by asking", broker.quality(0, 3), 1);
        // two KEEPSAKES, each by itself
        broker = Check.shop("B9P0Q013Q013D000D100", "p0 p1");
        sales(broker, 2, 3, 49, 100);
        sales(broker, 1, 3, 91, 100);
        sales(broker, 1, 10, 0, 1);
    }

    /** "m or more DEEDS": as many as there are, one more; up to five. */
    private static void atLeastSoMany() {
        String deeds = "D000D010D020D030D090";
        for (int many = 0; many <= 5; many++) {
            PluckBroker broker = Check.shop("B9P0Q010" + deeds.substring(0, 4 * many));
            for (int m = 0; m <= 5; m++) {
                sales(broker, m, 5, m <= many ? 1 : 0, 1);
            }
            Check.live(broker, "p0");
            for (int m = 0; m <= 5; m++) {
                sales(broker, m, 3, m == 0 ? 1 : m <= many ? 7 : 0, m == 0 ? 1 : m <= many ? 10 : 1);
            }
            Check.live(broker, "r0 d9 d");
            // those that are DONE already count, too
            for (int m = 0; m <= 5; m++) {
                sales(broker, m, 10, m <= many ? 1 : 0, 1);
            }
        }
    }

    /** Nothing is PLEDGED: what is HAD is not SOLD, what is SOLD does not come back. */
    private static void salesOfNothing() {
        sales(new PluckBroker(), 0, 10, 1, 1);
        sales(new PluckBroker(), 1, 0, 0, 1);
        sales(Check.shop("B9P0Q010D000"), 1, 10, 1, 1);
        sales(Check.shop("B9P0Q010D090", "p0 d9"), 1, 0, 0, 1);
        sales(Check.shop("B9P0Q010D080", "p0 d9"), 1, 0, 0, 1);
        sales(Check.shop("B9P0Q010D080", "p0 d8"), 1, 0, 1, 1);
        sales(Check.shop("B9P0Q010D000", "p0 d"), 1, 0, 0, 1);
    }

    /** All five, "by itself" each: the greatest number below is 100000. */
    private static void salesOfAll() {
        String text = "B9P0Q010Q011Q012Q013Q010D000D100D200D300D400";
        PluckBroker broker = Check.shop(text, "p0 p1 p2 p3 p4");
        sales(broker, 5, 1, 59049, 100000);
        sales(broker, 5, 9, 1, 100000);
        sales(broker, 1, 9, 40951, 100000);
        sales(broker, 1, 1, 99999, 100000);
        sales(broker, 3, 5, 1, 2);
        sales(broker, 5, 0, 1, 1);
        sales(broker, 1, 10, 0, 1);
        sales(broker, 0, 10, 1, 1);
        broker = Check.shop(text, "p1 p3");
        sales(broker, 5, 3, 49, 100);
        sales(broker, 4, 3, 91, 100);
        sales(broker, 3, 3, 1, 1);
        // REDEEMED "for nothing": nobody has as much as is DUE, and THE TILL has nothing
        broker = Check.shop("B1P0P0Q041Q110D190D090", "p0 d g01");
        broker.pledge(1);
        sales(broker, 2, 3, 7, 10);
        due("26: nothing is done", broker.about(6), 1);
    }

    // ---- promises 27 and 28

    /** "THE SEED, a long; 0 at first": each long is taken as it is. */
    private static void seeds() {
        PluckBroker broker = new PluckBroker();
        long was = 0;
        long[] taken = {1, -1, 0, Long.MAX_VALUE, Long.MIN_VALUE, Long.MAX_VALUE - 1, Long.MIN_VALUE + 1, 1L << 31,
            1L << 32, -(1L << 31), -(1L << 32), -1, -2, -3, -4, -9, 0};
        for (long seed : taken) {
            due("27: seed", broker.seed(seed), was);
            was = seed;
        }
        due("27: no ACT", broker.about(10), 0);
    }

    /** "64 bits, wrapping": what a SEED becomes in one time, and in 30. */
    private static void seedsWrap() {
        BigInteger wrap = BigInteger.ONE.shiftLeft(64);
        for (long seed : new long[] {0, 1, -1, 2, Long.MAX_VALUE, Long.MIN_VALUE, 1L << 32, -(1L << 32), FACTOR, STEP}) {
            BigInteger x = BigInteger.valueOf(seed);
            PluckBroker broker = Check.shop("B0P1");
            broker.seed(seed);
            for (int i = 1; i <= 30; i++) {
                x = x.multiply(BigInteger.valueOf(FACTOR)).add(BigInteger.valueOf(STEP)).mod(wrap);
                if (i == 1) {
                    broker.years(1);
                    due("28: THE SEED behind one time", broker.seed(seed), x.longValue());
                }
            }
            broker.years(30);
            due("28: THE SEED behind 30 times", broker.seed(0), x.longValue());
        }
    }

    /** The seed that becomes x in one time. */
    private static long seedOf(long x) {
        BigInteger wrap = BigInteger.ONE.shiftLeft(64);
        BigInteger back = BigInteger.valueOf(FACTOR).modInverse(wrap);
        return BigInteger.valueOf(x).subtract(BigInteger.valueOf(STEP)).multiply(back).mod(wrap).longValue();
    }

    /** A seed whose first time is a thing (0 .. 23); of many of such upper bits the numbered one, lower ones as told. */
    private static PluckBroker becoming(PluckBroker broker, int thing, long number, long lower) {
        broker.seed(seedOf(thing + 24 * number << 33 | lower));
        return broker;
    }

    /** "its upper 31 bits by 24: 0 .. 4 ... 5 .. 9 ... 10 .. 12 ... 13 .. 23": each, "if it can be". */
    private static void thingsOfAYear() {
        String five = "B9P1P2P3Q010Q120Q230Q040Q150D009";
        String two = "B1P1P2Q040Q120D109";
        int[] allHad = {7, 8, 9, 10, 11, 6, 6, 6, 6, 6, 8, 8, 8};
        int[] allPledged = {21, 21, 21, 21, 21, 20, 19, 18, 17, 16, 23, 23, 23};
        int[] oneOfTwo = {7, 5, 3, 3, 3, 3, 3, 3, 3, 3, 5, 5, 3};
        int[] noneLeft = {7, 7, 7, 7, 7, 3, 7, 7, 7, 7, 9, 9, 7};
        // the last one's upper bits are the greatest of 31 for some things: the highest bit is set
        for (long number : new long[] {0, 1, 44739242L, 44739243L, 89478484L}) {
            for (long lower : new long[] {0, (1L << 33) - 1}) {
                for (int thing = 0; thing <= 23; thing++) {
                    boolean day = thing > 12;
                    String told = "28: the thing " + thing + ": ";
                    due(told + "all are HAD", becoming(Check.shop(five), thing, number, lower).years(1),
                        day ? 15 : allHad[thing]);
                    due(told + "all are PLEDGED", becoming(Check.shop(five, "p0 p1 p2 p3 p4"), thing, number,
                        lower).years(1), day ? 21 : allPledged[thing]);
                    due(told + "two", becoming(Check.shop(two), thing, number, lower).years(1),
                        day ? 12 : oneOfTwo[thing]);
                    due(told + "THE TILL is empty", becoming(Check.shop(two, "p0"), thing, number, lower).years(1),
                        day ? 16 : noneLeft[thing]);
                    due(told + "nobody", becoming(Check.shop("B9"), thing, number, lower).years(1), 0);
                }
            }
        }
        // the greatest upper bits there are: 2147483647 is 7 more than 24 times 89478485
        PluckBroker broker = Check.shop(five, "p0 p1 p2 p3 p4");
        broker.seed(seedOf(-1));
        due("28: all bits are set", broker.years(1), 18);
        due("28: all bits are set, THE SEED", broker.seed(0), -1);
        // one who has less than is DUE
        due("28: has less", becoming(Check.shop("B1P0Q040", "p0 d"), 5, 0, 0).years(1), 4);
        due("28: has as much", becoming(Check.shop("B1P1Q040", "p0 d"), 5, 0, 0).years(1), 0);
    }

    /** "m times (1 .. 30)": "COINS of all PERSONS behind each time, together", lived through on another object. */
    private static void timesOfYears() {
        String text = "B9P1P2P3Q010Q121Q232Q043Q150D009D115D223D337D492";
        for (long seed : new long[] {0, 1, -1, 77, Long.MIN_VALUE, Long.MAX_VALUE}) {
            PluckBroker lived = Check.shop(text, "p0 d");
            long x = seed;
            long together = 0;
            for (int m = 1; m <= 30; m++) {
                x = x * FACTOR + STEP;
                happens(lived, (int) ((x >>> 33) % 24));
                together += lived.person(0, 0) + lived.person(1, 0) + lived.person(2, 0);
                PluckBroker broker = Check.shop(text, "p0 d");
                broker.seed(seed);
                due("28: years " + m + " of " + seed, broker.years(m), together);
                due("28: THE DAY stays", broker.about(3), 1);
                due("28: ACTS stay", broker.about(10), 2);
                due("28: THE SEED", broker.seed(0), x);
            }
        }
        // as many as can be, each time
        PluckBroker broker = Check.shop("B0P9P9P9");
        due("28: 27 COINS at least, 30 times", broker.years(30) >= 810 ? 1 : 0, 1);
    }

    private static void happens(PluckBroker broker, int thing) {
        switch (thing) {
            case 0: case 1: case 2: case 3: case 4: broker.pledge(thing); break;
            case 5: case 6: case 7: case 8: case 9: broker.redeem(thing - 5); break;
            case 10: case 11: case 12: broker.give(thing - 10, 2); break;
            default: broker.day(); break;
        }
    }

    private static void yearsRefused() {
        PluckBroker broker = Check.shop("B0P9");
        broker.seed(9);
        for (int m : Check.outside(1, 30)) {
            due("28: years " + m, broker.years(m), -2);
        }
        due("28: refused, THE SEED stays", broker.seed(9), 9);
        due("28: one time is taken", broker.years(1) > 0 ? 1 : 0, 1);
        due("28: 30 times are taken", broker.years(30) > 0 ? 1 : 0, 1);
    }
}
