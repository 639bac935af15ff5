/** Promises 25 to 28: two at the counter, at rest; sales by chance; the seed and its years. */
public final class ChancesTest {
    private static final Check CHECK = new Check();
    private static final int MIN = Integer.MIN_VALUE, MAX = Integer.MAX_VALUE;

    public static void main(String[] args) {
        rests();
        restsByTheTill();
        restsOfTheDearest();
        restsRefused();
        sales();
        salesByWhatIsPledged();
        salesRefused();
        seed();
        years();
        yearsRefused();
        CHECK.end();
    }

    private static void rests(PluckBroker broker, int one, int other, int many, int first) {
        CHECK.due("rests " + one + " " + other + " how many", broker.rests(one, other, 0), many);
        CHECK.due("rests " + one + " " + other + " first", broker.rests(one, other, 1), first);
    }

    private static void rests() {
        // five coins each, nothing lost
        rests(Check.shop("B9P0P0Q050Q150"), 0, 1, 1, 11);
        // five coins for a deed: all one
        rests(Check.shop("B9P0P0Q050Q150D000D100"), 0, 1, 4, 0);
        // four coins for a deed
        rests(Check.shop("B9P0P0Q040Q140D000D100"), 0, 1, 1, 0);
        // six coins for a deed
        rests(Check.shop("B9P0P0Q060Q160D000D100"), 0, 1, 1, 11);
        // the coins of a deed come behind a day
        rests(Check.shop("B9P0P0Q090Q190D009D109"), 0, 1, 1, 11);
        // six coins for two deeds; the other has no deeds
        rests(Check.shop("B9P0P0Q060Q110D000D090"), 0, 1, 1, 1);
        rests(Check.shop("B9P0P0Q060Q110D000D090"), 1, 0, 1, 10);
        // three persons: each pair by itself
        PluckBroker broker = Check.shop("B9P0P0P0Q010Q150Q260D000D100D200");
        rests(broker, 0, 1, 2, 0);
        rests(broker, 1, 0, 2, 0);
        rests(broker, 0, 2, 1, 1);
        rests(broker, 2, 0, 1, 10);
        rests(broker, 2, 1, 2, 10);
        rests(broker, 1, 2, 2, 1);
        // a deed that is done already, or has failed, is nothing to lose
        broker = Check.shop("B9P0P0Q010Q110D000D100");
        rests(broker, 0, 1, 1, 0);
        broker.day();
        rests(broker, 0, 1, 1, 11);
        broker = Check.shop("B9P9P0Q010Q110D000D110");
        broker.pledge(0);
        broker.day();
        broker.redeem(0);
        rests(broker, 0, 1, 1, 10);
    }

    private static void restsByTheTill() {
        // there is enough for one alone, and the one comes first
        rests(Check.shop("B1P0P0Q040Q140"), 0, 1, 2, 10);
        rests(Check.shop("B1P0P0Q040Q140"), 1, 0, 2, 10);
        rests(Check.shop("B1P0P0Q040Q140D000"), 0, 1, 1, 1);
        rests(Check.shop("B1P0P0Q040Q140D000"), 1, 0, 2, 10);
        // who has nothing to pledge, or too much for the till, does not
        rests(Check.shop("B9P0P0Q050"), 0, 1, 2, 10);
        rests(Check.shop("B9P0P0Q050"), 1, 0, 2, 1);
        rests(Check.shop("B9P0P0"), 0, 1, 4, 0);
        rests(Check.shop("B1P0P0Q050Q040"), 0, 1, 4, 0);
        rests(Check.shop("B0P0P0Q010Q110"), 0, 1, 4, 0);
    }

    private static void restsOfTheDearest() {
        // of like ones the least, by which two deeds are lost
        PluckBroker broker = Check.shop("B9P0P0Q030Q050Q050Q110D100D100");
        rests(broker, 0, 1, 1, 1);
        broker.pledge(1);
        rests(broker, 0, 1, 1, 11);
        // the dearest, though the cheaper one would cost no deed
        rests(Check.shop("B9P0P0Q040Q030D000"), 0, 1, 2, 0);
        rests(Check.shop("B9P0P0Q030Q040D100"), 0, 1, 2, 0);
        // one that is pledged, or sold, or the other's, is none of it
        broker = Check.shop("B9P0P0Q050Q190D000D000");
        broker.pledge(0);
        rests(broker, 0, 1, 2, 1);
        for (int i = 0; i < 9; i++) {
            broker.day();
        }
        rests(broker, 0, 1, 2, 1);
    }

    private static void restsRefused() {
        PluckBroker broker = Check.shop("B9P0P0");
        for (int person : new int[] {MIN, -1, 2, 3, MAX}) {
            CHECK.due("rests " + person + " 0", broker.rests(person, 0, 0), -1);
            CHECK.due("rests 0 " + person, broker.rests(0, person, 2), -1);
            CHECK.due("rests " + person + " both", broker.rests(person, person, 0), -1);
        }
        for (int what : new int[] {MIN, -1, 2, MAX}) {
            CHECK.due("rests what " + what, broker.rests(0, 1, what), -2);
        }
        CHECK.due("rests 0 0", broker.rests(0, 0, 0), -2);
        CHECK.due("rests 1 1", broker.rests(1, 1, 1), -2);
    }

    private static void sales(PluckBroker broker, int m, int x, int upper, int lower) {
        CHECK.due("sales " + m + " " + x + " upper", broker.sales(m, x, true), upper);
        CHECK.due("sales " + m + " " + x + " lower", broker.sales(m, x, false), lower);
    }

    private static void sales() {
        PluckBroker broker = Check.shop("B9P0P0Q010Q120D000D100D111");
        sales(broker, 3, 3, 1, 1);
        sales(broker, 4, 3, 0, 1);
        broker.pledge(0);
        broker.pledge(1);
        sales(broker, 0, 3, 1, 1);
        sales(broker, 1, 3, 91, 100);
        sales(broker, 2, 3, 7, 10);
        sales(broker, 3, 3, 49, 100);
        sales(broker, 4, 3, 0, 1);
        sales(broker, 5, 3, 0, 1);
        sales(broker, 1, 5, 3, 4);
        sales(broker, 2, 5, 1, 2);
        sales(broker, 3, 5, 1, 4);
        sales(broker, 3, 0, 1, 1);
        sales(broker, 1, 10, 0, 1);
        sales(broker, 0, 10, 1, 1);
        sales(broker, 3, 9, 1, 100);
        sales(broker, 1, 1, 99, 100);
        broker.day();
        // the first two deeds failed; the third is yet to come
        sales(broker, 1, 3, 7, 10);
        sales(broker, 2, 3, 0, 1);
    }

    private static void salesByWhatIsPledged() {
        PluckBroker broker = Check.shop("B9P0Q010Q012Q013Q011Q010D000D110D220D330D440");
        for (int quality = 0; quality < 5; quality++) {
            broker.pledge(quality);
        }
        sales(broker, 5, 9, 1, 100000);
        sales(broker, 5, 5, 1, 32);
        sales(broker, 4, 5, 3, 16);
        sales(broker, 1, 7, 83193, 100000);
        sales(broker, 3, 2, 2944, 3125);
        broker.redeem(0);
        // one deed is sure: two or more are one or more of four
        sales(broker, 2, 5, 15, 16);
        broker.day();
        sales(broker, 2, 5, 15, 16);
        for (int i = 0; i < 8; i++) {
            broker.day();
        }
        // all days are behind, all others failed, and are sold but the keepsake
        sales(broker, 1, 5, 1, 1);
        sales(broker, 2, 0, 0, 1);
        sales(new PluckBroker(), 0, 5, 1, 1);
        sales(new PluckBroker(), 1, 0, 0, 1);
        // nobody has a coin, and yet they come back
        broker = Check.shop("B1P0Q020Q020D090");
        broker.pledge(0);
        broker.pledge(1);
        broker.day();
        broker.give(0, 1);
        broker.redeem(1);
        sales(broker, 1, 4, 3, 5);
        // one that is sold already stays so
        broker = Check.shop("B1P0Q020D090");
        broker.pledge(0);
        for (int i = 0; i < 9; i++) {
            broker.day();
        }
        sales(broker, 1, 0, 0, 1);
    }

    private static void salesRefused() {
        PluckBroker broker = Check.shop("B9P0");
        for (int m : new int[] {MIN, -1, 6, MAX}) {
            CHECK.due("sales m " + m, broker.sales(m, 5, true), -2);
        }
        for (int x : new int[] {MIN, -1, 11, MAX}) {
            CHECK.due("sales x " + x, broker.sales(0, x, false), -2);
        }
    }

    private static void seed() {
        PluckBroker broker = new PluckBroker();
        CHECK.due("seed at first", broker.seed(Long.MIN_VALUE), 0);
        CHECK.due("seed least", broker.seed(Long.MAX_VALUE), Long.MIN_VALUE);
        CHECK.due("seed most", broker.seed(-1), Long.MAX_VALUE);
        CHECK.due("seed -1", broker.seed(0), -1);
        CHECK.due("seed is no act", broker.about(10), 0);
        broker.years(1);
        CHECK.due("seed behind a year", broker.seed(0), 1442695040888963407L);
        broker.seed(1);
        broker.years(1);
        CHECK.due("seed behind a year of 1", broker.seed(0), 7806831264735756412L);
    }

    /** The years of one object are lived through on another one, call by call. */
    private static void years() {
        String[] shops = {"B3P2P0Q050Q031Q142Q123D014D137D209D322D260",
            "B9P0P0P0Q051Q062Q173Q140Q292D089", "B9P9", "B5"};
        for (String shop : shops) {
            for (long seed = -40; seed < 40; seed++) {
                PluckBroker broker = Check.shop(shop);
                PluckBroker lived = Check.shop(shop);
                broker.seed(seed * 0x123456789ABCDL);
                long x = seed * 0x123456789ABCDL;
                long[] ahead = Check.look(broker);
                for (int m = 1; m <= 30; m += 7) {
                    long together = 0;
                    lived.keep(0);
                    for (int i = 0; i < m; i++) {
                        x = x * 6364136223846793005L + 1442695040888963407L;
                        live(lived, (int) (Long.divideUnsigned(x, 1L << 33) % 24));
                        together += Math.max(0, lived.person(0, 0)) + Math.max(0, lived.person(1, 0))
                            + Math.max(0, lived.person(2, 0));
                    }
                    lived.again(0);
                    CHECK.due("years " + m + " of " + seed, broker.years(m), together);
                }
                CHECK.row("years change nothing", Check.look(broker), ahead);
                CHECK.due("seed behind years of " + seed, broker.seed(0), x);
            }
        }
    }

    private static void live(PluckBroker broker, int thing) {
        if (thing <= 4) {
            broker.pledge(thing);
        } else if (thing <= 9) {
            broker.redeem(thing - 5);
        } else if (thing <= 12) {
            broker.give(thing - 10, 2);
        } else {
            broker.day();
        }
    }

    private static void yearsRefused() {
        PluckBroker broker = Check.shop("B9P5");
        broker.seed(3);
        for (int m : new int[] {MIN, -1, 0, 31, MAX}) {
            CHECK.due("years " + m, broker.years(m), -2);
        }
        CHECK.due("years refused: the seed stays", broker.seed(3), 3);
    }
}
