/** The bounds that promises 15 to 21 name: due, done, coins, raise, back, judge, share. */
public final class BoundsOfDaysToComeTest {
    private static final Check CHECK = new Check();
    private static final String[] QUALITIES = {"", "Q010", "Q010Q010", "Q010Q010Q010", "Q010Q010Q010Q010",
        "Q010Q010Q010Q010Q010"};

    public static void main(String[] args) {
        daysAhead();
        dueUntilSold();
        dueOnSaturdays();
        doneDayByDay();
        coinsDayByDay();
        sumsRaised();
        tillForAll();
        setsOfAPerson();
        likeSets();
        dayOfRaisedDeeds();
        raiseRefused();
        backFirst();
        backWhilePledged();
        backRefused();
        rowsOfDoings();
        figuresOfPledges();
        figuresOfGifts();
        figuresOfDeeds();
        figuresOfCoins();
        figuresOfNothing();
        aheadOfADoing();
        shares();
        sharesOfWhatWas();
        CHECK.end();
    }

    private static void due(String promise, long got, long want) {
        CHECK.due("promise " + promise, got, want);
    }

    /** "IN n DAYS (0 .. 20)": each, and those next to them; of the last QUALITY and PERSON, and of none. */
    private static void daysAhead() {
        for (int many = 0; many <= 5; many++) {
            PluckBroker broker = Check.shop("B9P7P7P7".substring(0, many < 3 ? 2 + 2 * many : 8)
                + (many == 0 ? "" : QUALITIES[many]));
            int persons = Math.min(many, 3);
            for (int n = -1; n <= 21; n++) {
                boolean good = n >= 0 && n <= 20;
                due("16: done " + n, broker.done(n), good ? 0 : -2);
                due("15: the last, " + n, broker.due(many - 1, n), many == 0 ? -1 : good ? 0 : -2);
                due("15: none, " + n, broker.due(many, n), -1);
                due("17: the last, " + n, broker.coins(persons - 1, n), persons == 0 ? -1 : good ? 7 : -2);
                due("17: none, " + n, broker.coins(persons, n), -1);
            }
            for (int n : Check.outside(0, 20)) {
                due("15: due in " + n, broker.due(many - 1, n), many == 0 ? -1 : -2);
                due("15: UNKNOWN goes ahead: " + n, broker.due(5, n), -1);
                due("16: done in " + n, broker.done(n), -2);
                due("17: coins in " + n, broker.coins(persons - 1, n), persons == 0 ? -1 : -2);
                due("17: UNKNOWN goes ahead: " + n, broker.coins(3, n), -1);
            }
            for (int number : Check.outside(0, 4)) {
                due("15: due " + number, broker.due(number, 0), -1);
                due("17: coins " + number, broker.coins(number, 20), -1);
            }
        }
    }

    // ---- promise 15

    /** "0, if it is not PLEDGED then": for as long as it is PLEDGED, 8 DAYS in all; a KEEPSAKE for ever. */
    private static void dueUntilSold() {
        for (int ago = 0; ago <= 8; ago++) {
            PluckBroker broker = Check.shop("B9P0P0Q090Q191Q013Q010", "p0 p1 p2");
            Check.live(broker, ago == 0 ? "" : "d" + ago);
            for (int n = 0; n <= 20; n++) {
                int k = ago + n;
                due("15: PLAIN in " + n, broker.due(0, n), k <= 8 ? 9 + k : 0);
                due("15: CLAIM in " + n, broker.due(1, n), k <= 8 ? 9 + 2 * k : 0);
                due("15: KEEPSAKE in " + n, broker.due(2, n), 1);
                due("15: HAD in " + n, broker.due(3, n), 0);
            }
            due("15: now", broker.due(1, 0), broker.quality(1, 5));
        }
        PluckBroker broker = Check.shop("B9P9Q090Q090", "p0 p1 d r0 d8");
        for (int n = 0; n <= 20; n++) {
            due("15: REDEEMED, in " + n, broker.due(0, n), 0);
            due("15: SOLD, in " + n, broker.due(1, n), 0);
        }
    }

    /** DUE on a SATURDAY that is to come: the DAY of it counts, not n. */
    private static void dueOnSaturdays() {
        for (int from = 0; from <= 14; from++) {
            PluckBroker broker = Check.shop("B9P0Q042", from == 0 ? "p0" : "d" + from + " p0");
            for (int n = 0; n <= 8; n++) {
                boolean saturday = from + n == 6 || from + n == 13 || from + n == 20;
                due("15: PLUCK from " + from + " in " + n, broker.due(0, n), saturday ? 4 : 4 + n);
            }
            due("15: PLUCK from " + from + " in 9", broker.due(0, 9), 0);
        }
    }

    // ---- promises 16 and 17

    /** A DEED of DAY d is DONE in d + 1 DAYS, not in d; in 0 those that are DONE already; "nothing being done". */
    private static void doneDayByDay() {
        for (int on = 0; on <= 9; on++) {
            for (int today = 0; today <= 10; today++) {
                PluckBroker broker = Check.shop("B9P0Q010Q013D0" + on + "0D1" + on + "0D099");
                Check.live(broker, today == 0 ? "p1" : "p1 d" + today);
                for (int n = 0; n <= 20; n++) {
                    int want = (today + n > on ? 1 : 0) + (today + n > 9 ? 4 : 0);
                    due("16: DAY " + on + " from " + today + " in " + n, broker.done(n), want);
                }
            }
        }
        PluckBroker broker = Check.shop("B0P0Q010D000D010D020D030D040", "d9");
        due("16: all, DONE already", broker.done(0), 31);
        due("16: all, in 20", broker.done(20), 31);
        // it is not REDEEMED ahead, and so its DEED fails, though there is enough
        broker = Check.shop("B9P9Q010D010D090", "p0");
        due("16: PLEDGED in 20", broker.done(20), 0);
        // a DEED of the day behind 20 does not come: the last DAY is 9
        broker = Check.shop("B0P0Q010D090");
        due("16: day 9 in 9", broker.done(9), 0);
        due("16: day 9 in 10", broker.done(10), 1);
    }

    private static void coinsDayByDay() {
        PluckBroker broker = Check.shop("B9P9P0Q010Q190D009D095D100D191D199", "p1 d");
        for (int n = 0; n <= 20; n++) {
            due("17: COINS of 0 in " + n, broker.coins(0, n), n < 9 ? 18 : 23);
            due("17: COINS of 1 in " + n, broker.coins(1, n), 9);
        }
        Check.live(broker, "g11 r1");
        for (int n = 0; n <= 20; n++) {
            due("17: REDEEMED, COINS of 1 in " + n, broker.coins(1, n), n < 9 ? 0 : 10);
        }
        broker = Check.shop("B0P9Q010D009D009D009D009D009");
        due("17: now", broker.coins(0, 0), 9);
        due("17: as many as can be", broker.coins(0, 1), 54);
        due("17: in 20", broker.coins(0, 20), 54);
    }

    // ---- promise 18

    private static void raise(PluckBroker broker, int person, int v, int which, int many) {
        due("18: raise " + person + " " + v + ", which", broker.raise(person, v, 0), which);
        due("18: raise " + person + " " + v + ", how many", broker.raise(person, v, 1), many);
    }

    /** "a sum v (0 .. 60)", "v COINS or more", "none of them, too", "NONE: none". */
    private static void sumsRaised() {
        PluckBroker broker = Check.shop("B9P5Q030D000");
        for (int v = 0; v <= 60; v++) {
            raise(broker, 0, v, v <= 5 ? 0 : v <= 8 ? 1 : -9, v <= 5 ? 1 : v <= 8 ? 0 : -9);
        }
        broker = Check.shop("B9P0Q090Q090Q090Q090", "g09 g09 g05");
        raise(broker, 0, 59, 15, 0);
        raise(broker, 0, 60, -9, -9);
        Check.live(broker, "g01");
        raise(broker, 0, 60, 15, 0);
        Check.live(broker, "g09 g09 g09 g08");
        raise(broker, 0, 60, 1, 0);
        Check.live(broker, "g01");
        raise(broker, 0, 60, 0, 0);
        raise(broker, 0, 0, 0, 0);
        // nobody else's, and a PERSON who has none
        broker = Check.shop("B9P0P4P0Q010");
        raise(broker, 1, 4, 0, 0);
        raise(broker, 1, 5, -9, -9);
        raise(broker, 2, 0, 0, 0);
        raise(broker, 2, 1, -9, -9);
    }

    /** "as THE TILL has it for all of them": as much, and one less, though the sets that are smaller do. */
    private static void tillForAll() {
        raise(Check.shop("B2P0Q050Q030"), 0, 8, 3, 0);
        raise(Check.shop("B2P0Q050Q040"), 0, 9, -9, -9);
        raise(Check.shop("B2P0Q050Q040"), 0, 5, 1, 0);
        raise(Check.shop("B2P0Q090"), 0, 1, -9, -9);
        raise(Check.shop("B0P0Q010"), 0, 1, -9, -9);
        raise(Check.shop("B0P0Q010"), 0, 0, 0, 0);
        raise(Check.shop("B9P0Q090Q090Q090Q080Q010"), 0, 36, 31, 0);
        raise(Check.shop("B9P0Q090Q090Q090Q090Q010"), 0, 36, 15, 0);
        raise(Check.shop("B9P0Q090Q090Q090Q090Q010"), 0, 37, -9, -9);
        // another's pledge is in the way
        raise(Check.shop("B1P0P0Q040Q110", "p1"), 0, 1, -9, -9);
    }

    /** "its QUALITIES that are HAD": none that is PLEDGED, SOLD or another's; the last of five too. */
    private static void setsOfAPerson() {
        PluckBroker broker = Check.shop("B9P0P0Q010Q110Q010Q110Q010");
        raise(broker, 0, 3, 21, 0);
        raise(broker, 0, 4, -9, -9);
        raise(broker, 1, 2, 10, 0);
        Check.live(broker, "p2");
        raise(broker, 0, 1, 0, 0);
        raise(broker, 0, 2, 1, 0);
        raise(broker, 0, 3, 17, 0);
        Check.live(broker, "d9");
        due("18: SOLD", broker.about(7), 4);
        raise(broker, 0, 3, 17, 0);
        raise(broker, 0, 4, -9, -9);
        Check.live(broker, "p0 p4");
        raise(broker, 0, 3, 0, 0);
        raise(broker, 0, 4, -9, -9);
        raise(Check.shop("B9P0Q013D000"), 0, 1, 1, 0);
    }

    /** Most DEEDS, "of like ones that of fewest QUALITIES, then the least (bits)". */
    private static void likeSets() {
        raise(Check.shop("B9P0Q010Q010Q010Q010Q010"), 0, 1, 1, 0);
        raise(Check.shop("B9P0Q010Q010Q010Q010Q010D000"), 0, 1, 2, 1);
        raise(Check.shop("B9P0Q010Q010Q010Q010Q010D000D100D200D300"), 0, 1, 16, 4);
        raise(Check.shop("B9P0Q010Q010Q010Q010Q010D000D100D200D300D400"), 0, 1, 1, 4);
        raise(Check.shop("B9P0Q010Q010Q010Q010Q010"), 0, 5, 31, 0);
        // one dear one or two cheap ones
        raise(Check.shop("B9P0Q010Q010Q020"), 0, 2, 4, 0);
        // with one DEED for the dear one the two go ahead
        raise(Check.shop("B9P0Q010Q010Q020D200"), 0, 2, 3, 1);
        // with one for a cheap one as well the dear one goes ahead
        raise(Check.shop("B9P0Q010Q010Q020D200D100"), 0, 2, 4, 1);
        // more QUALITIES than are needed are never better
        raise(Check.shop("B9P9Q010Q010Q010"), 0, 9, 0, 0);
        // of two of as many, the least bits: 3, not 5 or 6
        raise(Check.shop("B9P0Q010Q010Q010"), 0, 2, 3, 0);
    }

    /** "DONE in 20 DAYS": up to DAY 9, those that are DONE already count too, those that FAILED do not. */
    private static void dayOfRaisedDeeds() {
        PluckBroker broker = Check.shop("B9P0Q090D000D090");
        raise(broker, 0, 0, 0, 2);
        raise(broker, 0, 9, 1, 0);
        Check.live(broker, "d");
        raise(broker, 0, 9, 1, 1);
        Check.live(broker, "d8");
        raise(broker, 0, 9, 1, 1);
        raise(broker, 0, 0, 0, 2);
        Check.live(broker, "d");
        raise(broker, 0, 9, 1, 2);
        Check.live(broker, "d9");
        raise(broker, 0, 9, 1, 2);
        broker = Check.shop("B9P9Q090D000D010", "p0 d r0");
        raise(broker, 0, 8, 0, 1);
        raise(broker, 0, 9, 1, 0);
        raise(broker, 0, 17, 1, 0);
        raise(broker, 0, 18, -9, -9);
        // another's DEEDS do not count
        raise(Check.shop("B9P0P0Q010Q110D100D100D000"), 1, 0, 0, 2);
        raise(Check.shop("B9P0P0Q010Q110D100D100D000"), 1, 1, 2, 0);
        raise(Check.shop("B9P0P0Q010Q110D100D100D000"), 0, 1, 1, 0);
        // the COINS of a DEED come too late
        raise(Check.shop("B0P1Q010D009"), 0, 1, 0, 1);
        raise(Check.shop("B0P1Q010D009"), 0, 2, -9, -9);
    }

    /** "UNKNOWN; BAD: v, what". */
    private static void raiseRefused() {
        for (int persons = 1; persons <= 3; persons++) {
            PluckBroker broker = Check.shop("B9P0P0P0".substring(0, 2 + 2 * persons) + QUALITIES[1]);
            for (int person = -1; person <= 3; person++) {
                boolean known = person >= 0 && person < persons;
                due("18: raise " + person, broker.raise(person, 0, 1), known ? 0 : -1);
                due("18: raise " + person + ", BAD v", broker.raise(person, 61, 0), known ? -2 : -1);
                due("18: raise " + person + ", BAD what", broker.raise(person, 0, 2), known ? -2 : -1);
            }
            for (int bad : Check.outside(0, 60)) {
                due("18: v " + bad, broker.raise(0, bad, 0), -2);
            }
            for (int bad : Check.outside(0, 1)) {
                due("18: what " + bad, broker.raise(0, 0, bad), -2);
                due("18: what " + bad + ", none", broker.raise(0, 60, bad), -2);
            }
            for (int bad : Check.outside(0, 2)) {
                due("18: PERSON " + bad, broker.raise(bad, 0, 0), -1);
            }
        }
    }

    // ---- promise 19

    /** "in how many DAYS (0 .. 20) its PERSON has as much as is DUE first": as much, and one less. */
    private static void backFirst() {
        // a KEEPSAKE of 9; its PERSON spends 1 .. 8 on a CLAIM, and has them again by a DEED of DAY 9
        for (int spent = 1; spent <= 4; spent++) {
            for (int r = 0; r <= 9; r++) {
                PluckBroker broker = Check.shop("B9P0Q093Q011D19" + r, "p0 p1 d" + spent);
                broker.redeem(1);
                due("19: COINS", broker.person(0, 0), 9 - 2 * spent);
                due("19: spent " + 2 * spent + ", " + r + " come", broker.back(0), r >= 2 * spent ? 10 - spent : -9);
            }
        }
        PluckBroker broker = Check.shop("B9P0Q010", "p0");
        due("19: as much at once", broker.back(0), 0);
        Check.live(broker, "d");
        due("19: one less, and always less", broker.back(0), -9);
        Check.live(broker, "g01");
        due("19: as much again", broker.back(0), 0);
        due("19: and so it is", broker.redeem(0), 0);
    }

    /** "while it is PLEDGED": on its last day, not on the one on which it is SOLD; a SATURDAY's price. */
    private static void backWhilePledged() {
        PluckBroker broker = Check.shop("B9P0Q010Q010D179", "p0 d");
        due("19: COINS on its last day", broker.back(0), 7);
        Check.live(broker, "d7");
        due("19: on that day", broker.back(0), 0);
        broker = Check.shop("B9P0Q010Q010D189", "p0 d");
        due("19: COINS on the day on which it is SOLD", broker.back(0), -9);
        Check.live(broker, "d7");
        due("19: the day ahead of it", broker.back(0), -9);
        // what grows by two each day
        broker = Check.shop("B9P0Q011Q010D112D122D132D142", "p0 d");
        due("19: CLAIM, 2 come each day, 2 are missing", broker.back(0), -9);
        broker = Check.shop("B9P0Q011Q010D119D122D132D142", "p0 d");
        due("19: CLAIM, 9 come first", broker.back(0), 1);
        broker = Check.shop("B9P0Q052", "p0 d");
        due("19: PLUCK, the SATURDAY", broker.back(0), 5);
        Check.live(broker, "d5");
        due("19: PLUCK, that day", broker.back(0), 0);
        Check.live(broker, "d");
        due("19: PLUCK, the day behind", broker.back(0), -9);
        // PLEDGED on the SATURDAY itself: at once, and on the next one, which is 7 DAYS on
        broker = Check.shop("B9P0Q052", "d6 p0");
        due("19: PLUCK, PLEDGED then", broker.back(0), 0);
        Check.live(broker, "d");
        due("19: PLUCK, the next SATURDAY", broker.back(0), 6);
        // PLEDGED so early that the next SATURDAY is its ninth day
        broker = Check.shop("B9P0Q052", "d11 p0 d3");
        due("19: PLUCK, SOLD ahead of it", broker.back(0), -9);
    }

    /** "UNKNOWN; LATE: it is not PLEDGED": HAD, REDEEMED, SOLD; the last QUALITY and the first that is none. */
    private static void backRefused() {
        for (int many = 0; many <= 5; many++) {
            PluckBroker broker = Check.shop("B9P0" + QUALITIES[many]);
            for (int quality = 0; quality <= 5; quality++) {
                due("19: HAD, " + quality + " of " + many, broker.back(quality), quality < many ? -3 : -1);
                if (quality < many) {
                    Check.live(broker, "p" + quality);
                    due("19: PLEDGED, " + quality + " of " + many, broker.back(quality), 0);
                }
            }
            for (int quality : Check.outside(0, 4)) {
                due("19: back " + quality, broker.back(quality), -1);
            }
        }
        due("19: REDEEMED", Check.shop("B9P0Q010", "p0 r0").back(0), -3);
        due("19: not yet SOLD", Check.shop("B9P0Q010", "p0 d8 g09").back(0), 0);
        due("19: SOLD", Check.shop("B9P0Q010", "p0 d9 g09").back(0), -3);
        due("19: a KEEPSAKE is not", Check.shop("B9P0Q013", "p0 d30").back(0), 0);
    }

    // ---- promise 20

    private static void judge(PluckBroker broker, int n, long row, int want) {
        due("20: judge " + n + " " + row, broker.judge(n, row), want);
    }

    /** "n doings (1 .. 4)", "row (0 or more, 3 n figures at most)". */
    private static void rowsOfDoings() {
        PluckBroker broker = Check.shop("B3P2Q010");
        long[] limits = {1, 1000, 1000000, 1000000000L, 1000000000000L};
        for (int n = 1; n <= 4; n++) {
            judge(broker, n, 0, -9);
            judge(broker, n, limits[n] - 1, 0);
            judge(broker, n, limits[n], -2);
            judge(broker, n, limits[n] + 1, -2);
            judge(broker, n, -1, -2);
            judge(broker, n, -limits[n], -2);
            judge(broker, n, 1L << 40, -2);
            judge(broker, n, 1L << 62, -2);
            judge(broker, n, -(1L << 32), -2);
            judge(broker, n, Integer.MIN_VALUE, -2);
            judge(broker, n, Long.MIN_VALUE, -2);
            judge(broker, n, Long.MAX_VALUE, -2);
            judge(broker, n, limits[n - 1], 0);
        }
        // 32 bits of it alone would be 0
        judge(broker, 4, 1L << 32, 0);
        judge(broker, 3, 1L << 32, -2);
        for (int n : Check.outside(1, 4)) {
            judge(broker, n, 0, -2);
            judge(broker, n, -1, -2);
        }
        // the place is 0 .. 3: the first figures are the highest
        judge(broker, 4, 999000000000L, 0);
        judge(broker, 4, 999000000L, 1);
        judge(broker, 4, 999000L, 2);
        judge(broker, 4, 999L, 3);
        judge(broker, 4, 999999L, 2);
        judge(broker, 3, 999000000L, 0);
        judge(broker, 3, 999L, 2);
        judge(broker, 2, 999000L, 0);
        judge(broker, 2, 999L, 1);
        judge(broker, 1, 999L, 0);
    }

    /** "1, 0, a QUALITY: PLEDGED; 2, 0, a QUALITY: REDEEMED". */
    private static void figuresOfPledges() {
        for (int many = 0; many <= 5; many++) {
            for (int last = 0; last <= 9; last++) {
                PluckBroker broker = Check.shop("B9P9" + QUALITIES[many]);
                judge(broker, 1, 100 + last, last < many ? -9 : 0);
                judge(broker, 1, 200 + last, 0);
                judge(broker, 2, 1000 * (100 + last) + 200 + last, last < many ? -9 : 0);
                judge(broker, 2, 1000 * (100 + last) + 100 + last, last < many ? 1 : 0);
                for (int middle = 1; middle <= 9; middle++) {
                    judge(broker, 1, 100 + 10 * middle + last, 0);
                    judge(broker, 2, 100000 + 200 + 10 * middle, many > 0 ? 1 : 0);
                }
            }
        }
        // as much as its WORTH, one less; as much as is DUE, one less
        judge(Check.shop("B1P0Q040"), 1, 100, -9);
        judge(Check.shop("B1P0Q050"), 1, 100, 0);
        judge(Check.shop("B1P0Q040Q010"), 2, 100101, 1);
        judge(Check.shop("B1P0Q040Q010", "p0"), 1, 101, 0);
        judge(Check.shop("B1P1Q040", "p0 d"), 1, 200, -9);
        judge(Check.shop("B1P0Q040", "p0 d"), 1, 200, 0);
        judge(Check.shop("B1P0Q040", "p0"), 1, 200, -9);
        judge(Check.shop("B1P9Q040", "p0 d9"), 1, 200, 0);
        judge(Check.shop("B1P9Q040", "p0 d9"), 1, 100, 0);
        judge(Check.shop("B1P9Q040", "p0 d8"), 2, 200, 1);
        judge(Check.shop("B1P9Q043", "p0 d8"), 2, 200, -9);
    }

    /** "3, a PERSON, n: GIVEN": n is 1 .. 9; 0 can not be. */
    private static void figuresOfGifts() {
        for (int persons = 0; persons <= 3; persons++) {
            PluckBroker broker = Check.shop("B0P0P0P0".substring(0, 2 + 2 * persons));
            for (int person = 0; person <= 9; person++) {
                for (int n = 0; n <= 9; n++) {
                    judge(broker, 1, 300 + 10 * person + n, person < persons && n >= 1 ? -9 : 0);
                }
                judge(broker, 2, 1000 * (309 + 10 * person) + 509 + 10 * person, person < persons ? -9 : 0);
                judge(broker, 2, 1000 * (308 + 10 * person) + 509 + 10 * person, person < persons ? 1 : 0);
            }
        }
    }

    /** "4, 0, a DEED: it is DONE": not one that is open, not one that FAILED, none that there is not. */
    private static void figuresOfDeeds() {
        PluckBroker broker = Check.shop("B9P9Q010Q010D000D100D010D090D000", "p1 d r1");
        int[] want = {-9, 0, 0, 0, -9, 0, 0, 0, 0, 0};
        for (int last = 0; last <= 9; last++) {
            judge(broker, 1, 400 + last, want[last]);
            for (int middle = 1; middle <= 9; middle++) {
                judge(broker, 1, 400 + 10 * middle + last, 0);
            }
        }
        judge(broker, 2, 402, -9);
        judge(broker, 2, 401, 1);
        judge(broker, 2, 403, 1);
        Check.live(broker, "d8");
        judge(broker, 1, 403, 0);
        judge(broker, 2, 403, -9);
        for (int many = 0; many <= 5; many++) {
            broker = Check.shop("B0P0Q010" + "D000D000D000D000D000".substring(0, 4 * many), "d");
            for (int last = 0; last <= 9; last++) {
                judge(broker, 1, 400 + last, last < many ? -9 : 0);
            }
        }
    }

    /** "5, a PERSON, v: it has v COINS or more": v is 0 .. 9. */
    private static void figuresOfCoins() {
        for (int coins = 0; coins <= 9; coins++) {
            PluckBroker broker = Check.shop("B0P0P" + coins);
            for (int v = 0; v <= 9; v++) {
                judge(broker, 1, 510 + v, coins >= v ? -9 : 0);
                judge(broker, 1, 500 + v, v == 0 ? -9 : 0);
            }
            for (int person = 2; person <= 9; person++) {
                judge(broker, 1, 500 + 10 * person, 0);
            }
        }
        PluckBroker broker = Check.shop("B0P9P0P0", "g01 g29");
        judge(broker, 1, 509, -9);
        judge(broker, 1, 529, -9);
        judge(broker, 1, 511, 0);
        judge(broker, 1, 530, 0);
    }

    /** "0, 0, 0: A DAY" alone; "three figures that tell none of these can not be". */
    private static void figuresOfNothing() {
        String text = "B9P9P9P9Q010Q110Q210Q010Q110D000D100D200D300D400";
        judge(Check.shop(text, "d"), 1, 0, -9);
        for (int figures = 1; figures <= 999; figures++) {
            if (figures < 100 || figures >= 600) {
                judge(Check.shop(text, "d"), 1, figures, 0);
            }
        }
    }

    /** "what is ahead of it being done": DAYS sell, DEEDS pay, and nothing stays of it. */
    private static void aheadOfADoing() {
        PluckBroker broker = Check.shop("B1P0Q010Q011D105", "p0 d6");
        judge(broker, 3, 501, -9);
        judge(broker, 4, 501, -9);
        judge(broker, 3, 309000200L, -9);
        judge(broker, 3, 200L, 2);
        // behind two more DAYS it is PLEDGED for 8, behind three it is SOLD
        Check.live(broker, "g09");
        judge(broker, 3, 200L, -9);
        judge(broker, 4, 200L, 3);
        broker = Check.shop("B1P0Q010Q011D105");
        judge(broker, 3, 505400L, -9);
        judge(broker, 3, 506400L, 1);
        judge(broker, 2, 400000L, 0);
        judge(broker, 4, 101000400505L, 2);
        judge(broker, 4, 101201000400L, -9);
        due("20: nothing is done", broker.about(3), 0);
        due("20: no ACTS", broker.about(10), 0);
    }

    // ---- promise 21

    private static void share(PluckBroker broker, int quality, int upper, int lower) {
        due("21: share " + quality + ", above", broker.share(quality, true), upper);
        due("21: share " + quality + ", below", broker.share(quality, false), lower);
    }

    /** From none of its DEEDS to all five; the last QUALITY, and the first that is none. */
    private static void shares() {
        for (int deeds = 0; deeds <= 5; deeds++) {
            String told = "D090D000D050D010D080".substring(0, 4 * deeds);
            share(Check.shop("B0P0Q010" + told), 0, deeds, 1);
            PluckBroker broker = Check.shop("B0P0P0Q010Q113Q011Q110Q012" + told.replace("D0", "D4"));
            share(broker, 4, deeds, 1);
            share(broker, 0, 0, 1);
        }
        for (int many = 0; many <= 5; many++) {
            PluckBroker broker = Check.shop("B0P0" + QUALITIES[many]);
            for (int quality = 0; quality <= 5; quality++) {
                due("21: " + quality + " of " + many, broker.share(quality, true), quality < many ? 0 : -1);
                due("21: below, " + quality + " of " + many, broker.share(quality, false), quality < many ? 1 : -1);
            }
            for (int quality : Check.outside(0, 4)) {
                due("21: share " + quality, broker.share(quality, true), -1);
                due("21: share " + quality, broker.share(quality, false), -1);
            }
        }
    }

    /** "who has come is as it is now", and what is DONE already is no more by it. */
    private static void sharesOfWhatWas() {
        String text = "B9P9Q010Q010Q013D000D010D090D100D290";
        share(Check.shop(text), 0, 3, 1);
        share(Check.shop(text, "p0"), 0, 0, 1);
        share(Check.shop(text, "d"), 0, 2, 1);
        share(Check.shop(text, "d2"), 0, 1, 1);
        share(Check.shop(text, "d9"), 0, 1, 1);
        share(Check.shop(text, "d9 d"), 0, 0, 1);
        share(Check.shop(text, "p0 d r0"), 0, 2, 1);
        share(Check.shop(text, "p0 d9"), 0, 0, 1);
        share(Check.shop(text, "d"), 1, 0, 1);
        share(Check.shop(text, "p2"), 2, 0, 1);
        share(Check.shop(text, "p2 d9"), 2, 0, 1);
        share(Check.shop(text, "p2 d9 r2"), 2, 1, 1);
        share(Check.shop(text, "p1 d9"), 2, 1, 1);
    }
}
