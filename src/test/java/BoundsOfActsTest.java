/** The bounds that promises 10 to 14 name, and what is DUE: days, pledged, redeemed, given, undone. */
public final class BoundsOfActsTest {
    private static final Check CHECK = new Check();

    public static void main(String[] args) {
        deedsOfADay();
        dayOfADeed();
        coinsOfADeed();
        failed();
        eightDaysAndNine();
        neverSold();
        soldTogether();
        tillOfAPledge();
        tillThatGrows();
        onlyWhatIsHad();
        numbersOfQualities();
        purseOfARedemption();
        onlyWhatIsPledged();
        dueByDays();
        saturdays();
        given();
        undone();
        theRowIsFull();
        whatIsNoAct();
        CHECK.end();
    }

    private static void due(String promise, long got, long want) {
        CHECK.due("promise " + promise, got, want);
    }

    // ---- promise 10

    /** "how many DEEDS were DONE in it": none, one, all five. */
    private static void deedsOfADay() {
        due("10: nobody", Check.shop("B0").day(), 0);
        due("10: no DEED", Check.shop("B0P0Q010").day(), 0);
        String[] deeds = {"", "D000", "D000D000", "D000D000D000", "D000D000D000D000", "D000D000D000D000D000"};
        for (int many = 0; many <= 5; many++) {
            PluckBroker broker = Check.shop("B0P0Q010" + deeds[many]);
            due("10: " + many + " DEEDS", broker.day(), many);
            due("10: " + many + " DEEDS DONE", broker.about(8), (1 << many) - 1);
            due("10: " + many + " DEEDS, the next day", broker.day(), 0);
            due("10: THE DAY", broker.about(3), 2);
        }
        PluckBroker broker = Check.shop("B9P0Q010Q010D000D100D000D100D000", "p0");
        due("10: those of QUALITIES that are HAD", broker.day(), 2);
        due("10: DONE", broker.about(8), 10);
        due("10: FAILED", broker.about(9), 21);
    }

    /** "on DAY d (0 .. 9)": neither ahead of it nor behind. */
    private static void dayOfADeed() {
        for (int on = 0; on <= 9; on++) {
            PluckBroker broker = Check.shop("B0P0Q010D0" + on + "1");
            for (int day = 0; day <= 11; day++) {
                due("10: DAY " + on + " ahead of " + day, broker.deed(0, 3), day > on ? 1 : 0);
                due("10: DAY " + on + " on " + day, broker.day(), day == on ? 1 : 0);
                due("10: DAY " + on + " behind " + day, broker.person(0, 0), day >= on ? 1 : 0);
            }
        }
        PluckBroker broker = Check.shop("B0P0Q010D001D091", "d");
        due("10: day 0 alone", broker.about(8), 1);
        Check.live(broker, "d8");
        due("10: ahead of day 9", broker.about(8), 1);
        due("10: day 9", broker.day(), 1);
        due("10: behind day 9", broker.about(8), 3);
    }

    /** "whose that is has r COINS more": r is 0 .. 9; THE TILL has nothing of it. */
    private static void coinsOfADeed() {
        for (int r = 0; r <= 9; r++) {
            PluckBroker broker = Check.shop("B2P9P3P0Q110D00" + r, "d");
            due("10: COINS " + r, broker.person(1, 0), 3 + r);
            due("10: COINS of 0", broker.person(0, 0), 9);
            due("10: COINS of 2", broker.person(2, 0), 0);
            due("10: THE TILL", broker.about(4), 8);
        }
        PluckBroker broker = Check.shop("B0P0P0Q010Q110D009D009D109D009D109");
        due("10: all of one day", broker.day(), 5);
        due("10: all of 0", broker.person(0, 0), 27);
        due("10: all of 1", broker.person(1, 0), 18);
    }

    /** "if its QUALITY is HAD ... else it FAILS": PLEDGED on that very day, SOLD, REDEEMED on that very day. */
    private static void failed() {
        PluckBroker broker = Check.shop("B9P0Q010D009D019", "p0");
        due("10: PLEDGED", broker.day(), 0);
        due("10: PLEDGED, FAILED", broker.deed(0, 3), 2);
        due("10: PLEDGED, no COINS", broker.person(0, 0), 1);
        Check.live(broker, "g01 r0");
        due("10: REDEEMED", broker.day(), 1);
        due("10: what FAILED stays so", broker.about(9), 1);
        due("10: COINS of the one", broker.person(0, 0), 9);
        broker = Check.shop("B9P0Q010D089D099", "p0 d9");
        due("10: the DEED of the ninth day", broker.deed(0, 3), 2);
        due("10: SOLD", broker.quality(0, 3), 2);
        due("10: SOLD, none is DONE", broker.day(), 0);
        due("10: SOLD, FAILED", broker.deed(1, 3), 2);
        due("10: SOLD, COINS", broker.person(0, 0), 1);
    }

    /** "each QUALITY that is PLEDGED for 9 DAYS then is SOLD": not for 8; from whatever day. */
    private static void eightDaysAndNine() {
        for (int from = 0; from <= 9; from++) {
            for (int kind = 0; kind <= 2; kind++) {
                PluckBroker broker = Check.shop("B2P5Q03" + kind, from == 0 ? "p0" : "d" + from + " p0");
                for (int k = 0; k <= 8; k++) {
                    due("10: PLEDGED for " + k, broker.quality(0, 3), 1);
                    broker.day();
                }
                due("10: PLEDGED for 9", broker.quality(0, 3), 2);
                due("10: SOLD, THE TILL", broker.about(4), 5);
                due("10: SOLD, COINS", broker.person(0, 0), 8);
                Check.live(broker, "d9");
                due("10: SOLD for ever", broker.about(7), 1);
            }
        }
        // REDEEMED on the last day on which it can be, and PLEDGED again: nine days more
        PluckBroker broker = Check.shop("B9P0Q012", "p0 d8 g09 r0 d p0 d8");
        due("10: since it was PLEDGED last", broker.quality(0, 3), 1);
        broker.day();
        due("10: nine days since", broker.quality(0, 3), 2);
    }

    /** "(a KEEPSAKE never)": behind 8, 9, 10 and 400 days. */
    private static void neverSold() {
        PluckBroker broker = Check.shop("B1P0Q043", "p0");
        int lived = 0;
        for (int day : new int[] {8, 9, 10, 18, 400}) {
            Check.live(broker, "d" + (day - lived));
            lived = day;
            due("10: KEEPSAKE behind " + day, broker.quality(0, 3), 1);
            due("10: KEEPSAKE, since", broker.quality(0, 4), 0);
            due("10: KEEPSAKE, DUE", broker.quality(0, 5), 4);
            due("10: KEEPSAKE, PLEDGED", broker.about(6), 1);
            due("10: KEEPSAKE, SOLD", broker.about(7), 0);
        }
        due("12: KEEPSAKE, REDEEMED", broker.redeem(0), 0);
        due("10: THE DAY", broker.about(3), 400);
    }

    /** All that are PLEDGED for 9 DAYS are SOLD in one; those of the day behind are not yet. */
    private static void soldTogether() {
        PluckBroker broker = Check.shop("B9P0P0P0Q010Q121Q232Q043Q150", "p0 p1 p3 d p2 p4 d7");
        due("10: none yet", broker.about(7), 0);
        broker.day();
        due("10: those of day 0", broker.about(7), 3);
        due("10: those of day 1, not yet", broker.about(6), 28);
        broker.day();
        due("10: all but the KEEPSAKE", broker.about(7), 23);
        due("10: the KEEPSAKE", broker.about(6), 8);
        due("10: HAD", broker.about(5), 0);
    }

    // ---- promise 11

    /** "if THE TILL has as much as its WORTH": one less, as much, one more. */
    private static void tillOfAPledge() {
        for (int t = 0; t <= 3; t++) {
            for (int worth = 1; worth <= 9; worth++) {
                PluckBroker broker = Check.shop("B" + t + "P0P3Q1" + worth + "0");
                boolean can = 4 * t >= worth;
                due("11: " + worth + " of " + 4 * t, broker.pledge(0), can ? 4 * t - worth : -3);
                due("11: THE TILL", broker.about(4), can ? 4 * t - worth : 4 * t);
                due("11: COINS", broker.person(1, 0), can ? 3 + worth : 3);
                due("11: another's COINS", broker.person(0, 0), 0);
                due("11: HAD or PLEDGED", broker.quality(0, 3), can ? 1 : 0);
                due("11: since", broker.quality(0, 4), can ? 0 : -9);
                due("11: ACTS", broker.about(10), can ? 1 : 0);
            }
        }
        PluckBroker broker = Check.shop("B9P0Q090Q090Q090Q090Q010");
        int[] left = {27, 18, 9, 0, -3};
        for (int quality = 0; quality <= 4; quality++) {
            due("11: one after the other, " + quality, broker.pledge(quality), left[quality]);
        }
        due("11: all but one", broker.about(6), 15);
    }

    /** What is DUE comes into THE TILL: it has more than at first then. */
    private static void tillThatGrows() {
        PluckBroker broker = Check.shop("B1P9Q041Q050");
        due("11: 5 of 4", broker.pledge(1), -3);
        Check.live(broker, "p0");
        due("11: 5 of 0", broker.pledge(1), -3);
        Check.live(broker, "d r0");
        due("11: THE TILL has grown", broker.about(4), 6);
        due("11: 5 of 6", broker.pledge(1), 1);
    }

    /** "one that is HAD": not one that is PLEDGED, not one that is SOLD; one that is REDEEMED is. */
    private static void onlyWhatIsHad() {
        PluckBroker broker = Check.shop("B9P9Q010", "p0");
        due("11: PLEDGED", broker.pledge(0), -3);
        Check.live(broker, "r0");
        due("11: REDEEMED", broker.pledge(0), 35);
        Check.live(broker, "d8");
        due("11: PLEDGED for 8", broker.pledge(0), -3);
        Check.live(broker, "d");
        due("11: SOLD", broker.pledge(0), -3);
        due("11: SOLD, ACTS", broker.about(10), 12);
    }

    /** QUALITIES 0 .. 4 at most: the last one and the first that is none. */
    private static void numbersOfQualities() {
        for (int qualities = 0; qualities <= 5; qualities++) {
            String text = "B9P9" + "Q010Q010Q010Q010Q010".substring(0, 4 * qualities);
            for (int quality = 0; quality <= 5; quality++) {
                boolean known = quality < qualities;
                PluckBroker broker = Check.shop(text);
                due("12: HAD, " + quality + " of " + qualities, broker.redeem(quality), known ? -3 : -1);
                due("11: " + quality + " of " + qualities, broker.pledge(quality), known ? 35 : -1);
                due("12: " + quality + " of " + qualities, broker.redeem(quality), known ? 9 : -1);
            }
            for (int quality : Check.outside(0, 4)) {
                due("11: pledge " + quality, Check.shop(text).pledge(quality), -1);
                due("12: redeem " + quality, Check.shop(text).redeem(quality), -1);
            }
        }
    }

    // ---- promise 12

    /** "if the PERSON has as much as is DUE": one less, as much, one more; for each KIND, from 0 to 8 DAYS. */
    private static void purseOfARedemption() {
        for (int kind = 0; kind <= 3; kind++) {
            for (int k = 0; k <= 8; k++) {
                int owed = owed(kind, 3, k, k);
                for (int more = -1; more <= 1; more++) {
                    PluckBroker broker = Check.shop("B1P0P0Q0" + 3 + kind + "Q110");
                    Check.live(broker, "p0 d9 u" + (k == 8 ? "" : " u".repeat(8 - k)));
                    int missing = owed + more - 3;
                    give(broker, missing);
                    boolean can = more >= 0 || missing < 0;
                    int has = 3 + Math.max(missing, 0);
                    due("12: KIND " + kind + ", " + k + " DAYS, COINS " + has, broker.redeem(0), can ? has - owed : -3);
                    due("12: COINS", broker.person(0, 0), can ? has - owed : has);
                    due("12: THE TILL", broker.about(4), can ? 1 + owed : 1);
                    due("12: HAD or PLEDGED", broker.quality(0, 3), can ? 0 : 1);
                    due("12: since", broker.quality(0, 4), can ? -9 : 0);
                    due("12: another's COINS", broker.person(1, 0), 0);
                }
            }
        }
    }

    private static void give(PluckBroker broker, int coins) {
        for (int left = coins; left > 0; left -= 9) {
            broker.give(0, Math.min(left, 9));
        }
    }

    private static int owed(int kind, int worth, int k, int day) {
        int[] more = {k, 2 * k, day % 7 == 6 ? 0 : k, 0};
        return worth + more[kind];
    }

    /** "one that is PLEDGED": not one that is HAD, not one that is SOLD, however much there is. */
    private static void onlyWhatIsPledged() {
        PluckBroker broker = Check.shop("B9P9Q010");
        due("12: HAD", broker.redeem(0), -3);
        Check.live(broker, "p0 r0");
        due("12: REDEEMED already", broker.redeem(0), -3);
        Check.live(broker, "p0 d8");
        due("12: PLEDGED for 8", broker.redeem(0), 1);
        broker.undo();
        Check.live(broker, "d g09");
        due("12: SOLD", broker.redeem(0), -3);
        due("12: SOLD, COINS", broker.person(0, 0), 19);
        due("12: SOLD, THE TILL", broker.about(4), 35);
    }

    // ---- what is DUE

    /** Each KIND, WORTHS of 1 and 9, PLEDGED for 0 .. 8 DAYS from each of two weeks: DUE now and at what is given. */
    private static void dueByDays() {
        for (int kind = 0; kind <= 3; kind++) {
            for (int worth = 1; worth <= 9; worth += 8) {
                for (int from = 0; from <= 14; from++) {
                    PluckBroker broker = Check.shop("B9P0Q0" + worth + kind, from == 0 ? "p0" : "d" + from + " p0");
                    for (int k = 0; k <= 8; k++) {
                        due("8: KIND " + kind + ", WORTH " + worth + ", from " + from + ", " + k,
                            broker.quality(0, 5), owed(kind, worth, k, from + k));
                        broker.day();
                    }
                    due("8: KIND " + kind + " behind 9", broker.quality(0, 5), kind == 3 ? worth : 0);
                }
            }
        }
    }

    /** "a SATURDAY (6 is left of it by 7)": THE DAY on which it is DUE, not the one on which it was PLEDGED. */
    private static void saturdays() {
        PluckBroker broker = Check.shop("B9P0Q052", "d5 p0");
        due("8: PLEDGED on a Friday", broker.quality(0, 5), 5);
        Check.live(broker, "d");
        due("8: day 6", broker.quality(0, 5), 5);
        Check.live(broker, "d");
        due("8: day 7", broker.quality(0, 5), 7);
        broker = Check.shop("B9P0Q052", "d6 p0");
        due("8: PLEDGED on a SATURDAY", broker.quality(0, 5), 5);
        Check.live(broker, "d");
        due("8: the day behind", broker.quality(0, 5), 6);
        Check.live(broker, "d5");
        due("8: day 12", broker.quality(0, 5), 11);
        Check.live(broker, "d");
        due("8: day 13", broker.quality(0, 5), 5);
        Check.live(broker, "d");
        due("8: day 14", broker.quality(0, 5), 13);
        // two SATURDAYS in one pledge
        broker = Check.shop("B9P0Q052", "d12 p0 d");
        due("8: day 13, one DAY", broker.quality(0, 5), 5);
        Check.live(broker, "d6");
        due("8: day 19, seven DAYS", broker.quality(0, 5), 12);
        Check.live(broker, "d");
        due("8: day 20, eight DAYS", broker.quality(0, 5), 5);
        // no other KIND is cheap then
        broker = Check.shop("B9P0Q050Q051Q053", "p0 p1 p2 d6");
        due("8: PLAIN on a SATURDAY", broker.quality(0, 5), 11);
        due("8: CLAIM on a SATURDAY", broker.quality(1, 5), 17);
        due("8: KEEPSAKE on a SATURDAY", broker.quality(2, 5), 5);
        // the first SATURDAY is 6, not 0
        broker = Check.shop("B9P0Q052", "p0 d7");
        due("8: day 7 is none", broker.quality(0, 5), 12);
    }

    // ---- promise 13

    /** "n (1 .. 9) COINS more": each, and those next to them; the last PERSON and the first that is none. */
    private static void given() {
        for (int persons = 0; persons <= 3; persons++) {
            String text = "B0" + "P5P6P7".substring(0, 2 * persons);
            for (int person = 0; person <= 3; person++) {
                for (int n = -1; n <= 11; n++) {
                    PluckBroker broker = Check.shop(text);
                    boolean good = n >= 1 && n <= 9;
                    int want = person >= persons ? -1 : good ? 5 + person + n : -2;
                    due("13: give " + person + " of " + persons + ", " + n, broker.give(person, n), want);
                    due("13: ACTS", broker.about(10), want >= 0 ? 1 : 0);
                    due("13: THE TILL", broker.about(4), 0);
                }
            }
        }
        for (int person : Check.outside(0, 2)) {
            due("13: give " + person, Check.shop("B0P5P6P7").give(person, 9), -1);
            due("13: UNKNOWN goes ahead: " + person, Check.shop("B0P5P6P7").give(person, 0), -1);
        }
        for (int n : Check.outside(1, 9)) {
            due("13: give " + n, Check.shop("B0P5P6P7").give(2, n), -2);
        }
        PluckBroker broker = Check.shop("B0P9P0");
        for (int i = 1; i <= 40; i++) {
            due("13: COINS have no bound", broker.give(0, 9), 9 + 9 * i);
        }
        due("13: another's COINS", broker.person(1, 0), 0);
    }

    // ---- promise 14

    /** "The last ACT is undone: how many are left": each of the four; until there is none. */
    private static void undone() {
        String text = "B9P0P5Q030Q141Q012D001D104D207";
        String[] doings = {"d", "p0", "p1", "g11", "g09", "d", "r0", "d9", "p2"};
        PluckBroker broker = Check.shop(text);
        due("14: none at first", broker.undo(), -3);
        for (int many = 1; many <= doings.length; many++) {
            String ahead = String.join(" ", java.util.Arrays.copyOf(doings, many - 1));
            broker = Check.shop(text, ahead);
            int acts = broker.about(10);
            long[] was = Check.look(broker);
            boolean days = doings[many - 1].equals("d9");
            Check.live(broker, days ? "d" : doings[many - 1]);
            due("14: ACTS behind " + doings[many - 1], broker.about(10), acts == 14 ? 14 : acts + 1);
            due("14: " + doings[many - 1] + " is undone", broker.undo(), acts == 14 ? 13 : acts);
            was[10] = acts == 14 ? 13 : acts;
            CHECK.row("promise 14: as it was ahead of " + doings[many - 1], Check.look(broker), was);
        }
        broker = Check.shop(text, "d");
        due("14: the only one", broker.undo(), 0);
        due("14: LATE", broker.undo(), -3);
        due("14: LATE again", broker.undo(), -3);
        due("14: LATE, THE DAY", broker.about(3), 0);
        Check.live(broker, "g01");
        due("14: one again", broker.about(10), 1);
    }

    /** "a row (14 at most; when it is full, the first one is forgotten)": 13, 14, 15 and more of them. */
    private static void theRowIsFull() {
        for (int many : new int[] {1, 2, 13, 14, 15, 16, 27, 28, 29, 43, 100}) {
            PluckBroker broker = Check.shop("B0P0");
            for (int i = 1; i <= many; i++) {
                due("13: the COINS of " + i, broker.give(0, 1), i);
                due("6: ACTS behind " + i, broker.about(10), Math.min(i, 14));
            }
            int left = Math.min(many, 14);
            for (int i = 1; i <= left; i++) {
                due("14: undone " + i + " of " + many, broker.undo(), left - i);
                due("14: COINS", broker.person(0, 0), many - i);
            }
            due("14: no more of " + many, broker.undo(), -3);
            due("14: what is forgotten stays", broker.person(0, 0), many - left);
        }
        // full, one undone, one done: full again, and the row's first is still the same
        PluckBroker broker = Check.shop("B0P0", "d d d d d d d d d d d d d d");
        due("14: full, undone", broker.undo(), 13);
        Check.live(broker, "g05");
        due("14: full again", broker.about(10), 14);
        for (int left = 13; left >= 0; left--) {
            due("14: undone, " + left + " left", broker.undo(), left);
            due("14: THE DAY", broker.about(3), left == 13 ? 13 : left);
            due("14: no COINS", broker.person(0, 0), 0);
        }
        // full, two undone, three done: the first one is forgotten
        broker = Check.shop("B0P0", "d14 u u g01 g02 g03");
        due("14: full yet", broker.about(10), 14);
        Check.live(broker, "u u u u u u u u u u u u u u");
        due("14: the first day is forgotten", broker.about(3), 1);
        due("14: none left", broker.undo(), -3);
    }

    /** "ACTS (DAYS, PLEDGED, REDEEMED, GIVEN)": nothing else is one, and what is refused is none. */
    private static void whatIsNoAct() {
        PluckBroker broker = Check.shop("B1P0P0Q040Q010D000", "p0");
        broker.write('x');
        broker.fault();
        broker.shop();
        broker.pledge(0);
        broker.pledge(1);
        broker.pledge(2);
        broker.redeem(1);
        broker.redeem(-1);
        broker.give(0, 0);
        broker.give(2, 1);
        broker.ask(0, 4);
        broker.unask();
        broker.seed(5);
        broker.years(30);
        broker.keep(0);
        broker.judge(4, 0L);
        broker.raise(0, 1, 0);
        broker.rests(0, 1, 0);
        broker.sales(1, 5, true);
        broker.wipe();
        due("6: one ACT", broker.about(10), 1);
        due("14: which is undone", broker.undo(), 0);
        due("14: THE TILL", broker.about(4), 4);
        due("14: no more", broker.undo(), -3);
    }
}
