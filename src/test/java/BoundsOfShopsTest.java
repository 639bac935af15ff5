/** The bounds that promises 1 to 9 name: a new object, the text, its fault, the shop, and what it tells of itself. */
public final class BoundsOfShopsTest {
    private static final Check CHECK = new Check();
    private static final String FIGURES = "0123456789";
    /** As much as there can be: 3 PERSONS, 5 QUALITIES, 5 DEEDS, which is 48 bytes. */
    private static final String FULL_SHOP = "B9P0P9P5Q010Q191Q252Q053Q190D000D199D250D305D491";

    public static void main(String[] args) {
        nobodyAtFirst();
        everyCallOfNobody();
        lettersTaken();
        textOf48();
        wiped();
        noText();
        onlyNotAtItsEnd();
        everyByteInEveryPlace();
        oneTooMany();
        toldAhead();
        theFirstFault();
        whateverCameBehind();
        aTextThatIsFull();
        fewestAndMost();
        tillOfFour();
        madeAnew();
        whatStaysAndWhatIsGone();
        refusedShop();
        abouts();
        persons();
        qualities();
        deeds();
        CHECK.end();
    }

    private static void due(String promise, long got, long want) {
        CHECK.due("promise " + promise, got, want);
    }

    private static PluckBroker text(String text) {
        PluckBroker broker = new PluckBroker();
        Check.write(broker, text);
        return broker;
    }

    // ---- promise 1

    /** "At first there is nobody, THE TILL is 0"; nothing is told, asked, done or kept. */
    private static void nobodyAtFirst() {
        PluckBroker broker = new PluckBroker();
        for (int what = 0; what <= 12; what++) {
            due("1: about " + what, broker.about(what), 0);
        }
        for (int what = 0; what <= 5; what++) {
            due("1: person 0, " + what, broker.person(0, what), -1);
            due("1: quality 0, " + what, broker.quality(0, what), -1);
            due("1: deed 0, " + what, broker.deed(0, what), -1);
        }
        due("1: again 0", broker.again(0), -3);
        due("1: again 1", broker.again(1), -3);
        due("1: THE SEED", broker.seed(7), 0);
        PluckBroker other = new PluckBroker();
        due("1: another object's SEED", other.seed(0), 0);
        due("1: another object's text", other.write('B'), 1);
        due("1: the first one's text", broker.about(12), 0);
    }

    /** Each call is the first one of an object of its own. */
    private static void everyCallOfNobody() {
        due("1: fault", new PluckBroker().fault(), 0);
        due("1: shop", new PluckBroker().shop(), -3);
        due("1: wipe", new PluckBroker().wipe(), 0);
        due("1: day", new PluckBroker().day(), 0);
        due("1: pledge", new PluckBroker().pledge(0), -1);
        due("1: redeem", new PluckBroker().redeem(0), -1);
        due("1: give", new PluckBroker().give(0, 1), -1);
        due("1: undo", new PluckBroker().undo(), -3);
        due("1: due", new PluckBroker().due(0, 0), -1);
        due("1: done", new PluckBroker().done(20), 0);
        due("1: coins", new PluckBroker().coins(0, 0), -1);
        due("1: raise", new PluckBroker().raise(0, 0, 0), -1);
        due("1: back", new PluckBroker().back(0), -1);
        due("1: judge", new PluckBroker().judge(4, 0L), -9);
        due("1: judge PLEDGED", new PluckBroker().judge(1, 100L), 0);
        due("1: judge REDEEMED", new PluckBroker().judge(1, 200L), 0);
        due("1: judge GIVEN", new PluckBroker().judge(1, 301L), 0);
        due("1: judge DONE", new PluckBroker().judge(1, 400L), 0);
        due("1: judge COINS", new PluckBroker().judge(1, 500L), 0);
        due("1: share", new PluckBroker().share(0, true), -1);
        due("1: ask", new PluckBroker().ask(0, 0), 1);
        due("1: unask", new PluckBroker().unask(), 0);
        due("1: tickets", new PluckBroker().tickets(0), 36);
        due("1: rests", new PluckBroker().rests(0, 1, 0), -1);
        due("1: sales", new PluckBroker().sales(0, 10, true), 1);
        due("1: sales, lower", new PluckBroker().sales(1, 0, false), 1);
        due("1: years", new PluckBroker().years(30), 0);
        due("1: keep", new PluckBroker().keep(1), 0);
    }

    // ---- promises 2 and 3

    /** "A byte (0 .. 255)": each of them, and none beside. */
    private static void lettersTaken() {
        PluckBroker broker = new PluckBroker();
        for (int letter = 0; letter <= 255; letter++) {
            if (letter % 48 == 0) {
                broker.wipe();
            }
            due("2: write " + letter, broker.write(letter), letter % 48 + 1);
        }
        for (int letter : Check.outside(0, 255)) {
            due("2: write " + letter, broker.write(letter), -2);
            due("2: 'B' by 8 bits", broker.write('B' + 256), -2);
            due("2: how long it is", broker.about(12), 16);
        }
        // a byte that is refused does not come, also where the next one is right
        broker = text("B");
        broker.write('0' - 256);
        broker.write(256);
        due("2: refused, no byte between", broker.write('4'), 2);
        due("2: refused, the text is B4", broker.fault(), -9);
    }

    /** "THE TEXT is bytes (48 at most)"; "BAD; FULL: there are 48". */
    private static void textOf48() {
        PluckBroker broker = text("B0P0P0P0Q010Q010Q010Q010Q010D000D000D000D000D00");
        due("2: 47 are there", broker.about(12), 47);
        due("2: the 48th", broker.write('0'), 48);
        due("2: the 49th", broker.write('0'), -4);
        due("2: the 49th again", broker.write(255), -4);
        for (int letter : Check.outside(0, 255)) {
            due("2: full, BAD goes ahead: " + letter, broker.write(letter), -2);
        }
        due("2: full, how long it is", broker.about(12), 48);
        due("2: full, as it was", broker.fault(), -9);
        due("2: full, a shop", broker.shop(), 355);
        due("2: full behind the shop", broker.write('B'), -4);
    }

    /** "THE TEXT is empty: how long it was": 0, 1, 47, 48. */
    private static void wiped() {
        for (int length : new int[] {0, 1, 2, 47, 48}) {
            PluckBroker broker = text(FULL_SHOP.substring(0, length));
            due("3: wipe " + length, broker.wipe(), length);
            due("3: empty", broker.about(12), 0);
            due("3: wipe what is empty", broker.wipe(), 0);
            due("3: fault of what is empty", broker.fault(), 0);
            due("3: the first byte", broker.write('B'), 1);
            due("3: what was there does not come back", broker.fault(), 1);
            due("3: the second byte", broker.write('0'), 2);
            due("3: a shop of two bytes", broker.shop(), 0);
        }
        PluckBroker broker = text(FULL_SHOP + "x");
        broker.wipe();
        for (int i = 1; i <= 48; i++) {
            due("3: as many as ever", broker.write('x'), i);
        }
        due("3: and no more", broker.write('x'), -4);
    }

    // ---- promise 4

    private static void fault(String text, int want) {
        due("4: fault of " + text, text(text).fault(), want);
    }

    /** A TEXT that is empty: its length. */
    private static void noText() {
        fault("", 0);
        PluckBroker broker = new PluckBroker();
        due("5: a shop of no text", broker.shop(), -3);
        due("5: a shop of no text, acts", broker.about(10), 0);
    }

    /** "its length, if it is only not at its end": each beginning of the fullest shop. */
    private static void onlyNotAtItsEnd() {
        for (int length = 0; length <= 48; length++) {
            boolean whole = length >= 2 && (length <= 8 ? length % 2 == 0 : length % 4 == 0);
            fault(FULL_SHOP.substring(0, length), whole ? -9 : length);
            due("5: shop of " + length, text(FULL_SHOP.substring(0, length)).shop() < 0 ? -3 : 0, whole ? 0 : -3);
        }
    }

    /** Behind a text that can go on: each byte with which it can, and each other one, which is the fault. */
    private static void everyByteInEveryPlace() {
        behind("", "B", false);
        behind("B", FIGURES, true);
        behind("B9", "P", false);
        behind("B0P", FIGURES, true);
        behind("B0P0", "PQ", false);
        behind("B0P0P9", "PQ", false);
        behind("B0P0P0P0", "Q", false);
        behind("B0P0Q", "0", false);
        behind("B0P0P0Q", "01", false);
        behind("B0P0P0P0Q", "012", false);
        behind("B0P0Q0", "123456789", false);
        behind("B0P0Q01", "0123", true);
        behind("B0P0Q010", "PQD", false);
        behind("B0P0P0P0Q010", "QD", false);
        behind("B0P0Q010D", "0", false);
        behind("B0P0Q010Q020D", "01", false);
        behind("B0P0Q010Q020Q030D", "012", false);
        behind("B0P0Q010Q020Q030Q040D", "0123", false);
        behind("B0P0Q010Q020Q030Q040Q050D", "01234", false);
        behind("B0P0Q010D0", FIGURES, false);
        behind("B0P0Q010D00", FIGURES, true);
        behind("B0P0Q010D000", "PQD", false);
        behind("B0P0Q010Q010Q010Q010Q010", "PD", false);
        behind("B0P0Q010D000D000D000D000D000", "PQ", false);
        behind("B0P0P0P0Q010Q010Q010Q010Q010", "D", false);
        behind("B0P0P0P0Q010D000D000D000D000D000", "Q", false);
        behind("B0P0Q010Q010Q010Q010Q010D000D000D000D000D000", "P", false);
        behind(FULL_SHOP.substring(0, 44), "D", false);
        behind(FULL_SHOP.substring(0, 47), FIGURES, true);
    }

    private static void behind(String ahead, String right, boolean whole) {
        for (int letter = 0; letter <= 255; letter++) {
            String text = ahead + (char) letter;
            int good = whole ? -9 : text.length();
            fault(text, right.indexOf(letter) >= 0 ? good : ahead.length());
        }
    }

    /** "3 at most", "5 at most": the letter of one too many can stand in no SHOP. */
    private static void oneTooMany() {
        fault("B0P0P0P0", -9);
        fault("B0P0P0P0P", 8);
        fault("B0P0P0P0P0", 8);
        fault("B0P0P0P0Q010P0", 12);
        fault("B0P0Q010Q010Q010Q010Q010", -9);
        fault("B0P0Q010Q010Q010Q010Q010Q", 24);
        fault("B0P0Q010Q010Q010Q010Q010Q010", 24);
        fault("B0P0Q010Q010Q010Q010Q010P0Q010", 26);
        fault("B0P0Q010D000D000D000D000D000", -9);
        fault("B0P0Q010D000D000D000D000D000D", 28);
        fault("B0P0Q010D000D000D000D000D000D000", 28);
        fault("B0P0Q010D000D000D000D000D000Q010D000", 32);
        due("5: one too many", text("B0P0P0P0P0").shop(), -3);
    }

    /** "told ahead": what is told behind is not there yet; "numbered as they are told, each kind for itself". */
    private static void toldAhead() {
        fault("B0Q010P0", 2);
        fault("B0D000P0Q010", 2);
        fault("B0P0D000Q010", 4);
        fault("B0P0Q110P0", 5);
        fault("B0P0P0Q110", -9);
        fault("B0P0Q010P0Q110", -9);
        fault("B0P0Q010P0Q210", 11);
        fault("B0P0Q010D100Q010", 9);
        fault("B0P0Q010Q010D100", -9);
        fault("B0P0Q010D000Q010D100", -9);
        fault("B0P0Q010D000Q010D200", 17);
    }

    /** "the first byte": of two that are wrong the first; a right one behind it mends nothing. */
    private static void theFirstFault() {
        fault("b0P0", 0);
        fault("xyz", 0);
        fault("Bx#", 1);
        fault("B0P0Q900D999", 5);
        fault("B0P0Q010D099#P0", 12);
        fault("BB0", 1);
        fault("B00", 2);
        fault("B0 P0", 2);
        fault("B0P0\n", 4);
    }

    /** "whatever came behind it": the fault stays where it is, up to the 48th byte. */
    private static void whateverCameBehind() {
        for (String wrong : new String[] {"x", "Bx", "B0Q", "B0P0P0P0P", "B0P0Q00", "B0P0Q010D00x"}) {
            PluckBroker broker = text(wrong);
            for (int length = wrong.length(); length <= 48; length++) {
                due("4: behind " + wrong + ", " + length, broker.fault(), wrong.length() - 1);
                broker.write(FULL_SHOP.charAt(length % 48));
            }
            due("4: full", broker.about(12), 48);
            due("4: full, behind " + wrong, broker.fault(), wrong.length() - 1);
        }
    }

    /** A TEXT that is full: whole, or wrong in its last byte, or in its first. */
    private static void aTextThatIsFull() {
        fault(FULL_SHOP, -9);
        fault(FULL_SHOP.substring(0, 47) + "x", 47);
        fault("x" + FULL_SHOP.substring(1), 0);
        fault(FULL_SHOP.substring(0, 24) + "x" + FULL_SHOP.substring(25), 24);
        // all 48 are there, and one that can be no SHOP's stands at 46
        fault("B0P0Q010Q010Q010Q010Q010D000D000D000D000D000P0Q0", 46);
        due("4: fault changes nothing", text(FULL_SHOP).shop(), 355);
    }

    // ---- promise 5

    /** "100 times PERSONS, 10 times QUALITIES, and DEEDS": a shop with nobody in it, one with all. */
    private static void fewestAndMost() {
        due("5: nobody", text("B0").shop(), 0);
        due("5: one PERSON", text("B0P0").shop(), 100);
        due("5: three PERSONS", text("B0P0P0P0").shop(), 300);
        due("5: one QUALITY", text("B0P0Q010").shop(), 110);
        due("5: five QUALITIES", text("B0P0Q010Q010Q010Q010Q010").shop(), 150);
        due("5: one DEED", text("B0P0Q010D000").shop(), 111);
        due("5: five DEEDS", text("B0P0Q010D000D000D000D000D000").shop(), 115);
        due("5: all of them", text(FULL_SHOP).shop(), 355);
    }

    /** "THE TILL is 4 times t": t is 0 .. 9. */
    private static void tillOfFour() {
        for (int t = 0; t <= 9; t++) {
            due("5: THE TILL by " + t, Check.shop("B" + t).about(4), 4 * t);
        }
        due("5: no TILL of :", text("B:").shop(), -3);
        due("5: no TILL of /", text("B/").shop(), -3);
    }

    /** "all QUALITIES are HAD, all DEEDS are open, THE DAY is 0", whatever was. */
    private static void madeAnew() {
        PluckBroker broker = Check.shop("B9P5P0Q020Q013Q110Q190D000D094D102", "d p0 p1 p2 d9 g09");
        due("5: ahead, SOLD", broker.about(7), 5);
        due("5: ahead, PLEDGED", broker.about(6), 2);
        due("5: anew", broker.shop(), 243);
        for (int what = 3; what <= 10; what++) {
            due("5: anew, about " + what, broker.about(what), what == 4 ? 36 : what == 5 ? 15 : 0);
        }
        due("5: anew, COINS of 0", broker.person(0, 0), 5);
        due("5: anew, COINS of 1", broker.person(1, 0), 0);
        for (int quality = 0; quality < 4; quality++) {
            due("5: anew, HAD", broker.quality(quality, 3), 0);
            due("5: anew, since", broker.quality(quality, 4), -9);
            due("5: anew, DUE", broker.quality(quality, 5), 0);
        }
        for (int deed = 0; deed < 3; deed++) {
            due("5: anew, open", broker.deed(deed, 3), 0);
        }
        Check.write(broker, "B1P9");
        due("5: smaller", broker.shop(), 100);
        due("5: smaller, PERSON 1", broker.person(1, 0), -1);
        due("5: smaller, QUALITY 0", broker.quality(0, 0), -1);
        due("5: smaller, DEED 0", broker.deed(0, 0), -1);
        due("5: smaller, THE TILL", broker.about(4), 4);
        due("5: smaller, COINS", broker.person(0, 0), 9);
        due("5: smaller, its QUALITIES", broker.person(0, 1), 0);
        due("5: smaller, HAD", broker.about(5), 0);
    }

    /** "THE TEXT itself stays; no ACTS; what was kept is gone; ASKED, THE SEED stay". */
    private static void whatStaysAndWhatIsGone() {
        PluckBroker broker = Check.shop("B3P2Q050D014", "g01 g01 g01 g01 g01 g01 g01 g01 g01 g01 g01 g01 g01 g01 g01");
        for (int i = 1; i <= 6; i++) {
            broker.ask(0, 4);
        }
        broker.seed(Long.MIN_VALUE);
        broker.keep(0);
        broker.keep(1);
        due("5: ahead, ACTS", broker.about(10), 14);
        due("5: anew", broker.shop(), 111);
        due("5: THE TEXT stays", broker.about(12), 12);
        due("5: THE TEXT has no FAULT", broker.fault(), -9);
        due("5: no ACTS", broker.about(10), 0);
        due("5: no ACTS, undo", broker.undo(), -3);
        due("5: kept 0 is gone", broker.again(0), -3);
        due("5: kept 1 is gone", broker.again(1), -3);
        due("5: ASKED stay", broker.about(11), 6);
        due("5: ASKED are as they were", broker.tickets(0), 4);
        due("5: ASKED, no seventh", broker.ask(0, 4), -4);
        due("5: THE SEED stays", broker.seed(0), Long.MIN_VALUE);
        due("5: THE TEXT goes on", broker.write('P'), 13);
        due("5: gone on, a FAULT", broker.shop(), -3);
        broker.write('0');
        due("5: gone on, one PERSON more", broker.shop(), 211);
    }

    /** "LATE: a FAULT": the SHOP that was stays, with all that belongs to it. */
    private static void refusedShop() {
        for (String wrong : new String[] {"", "B", "B0P", "B9P9P9Q110D009x", "x" + FULL_SHOP.substring(1)}) {
            PluckBroker broker = Check.shop("B3P2P0Q050Q131D014D137", "p0 d p1");
            PluckBroker twin = Check.shop("B3P2P0Q050Q131D014D137", "p0 d p1");
            broker.keep(1);
            twin.keep(1);
            Check.write(broker, wrong);
            Check.write(twin, wrong);
            due("5: LATE of " + wrong, broker.shop(), -3);
            CHECK.row("promise 5: refused by " + wrong, Check.lookBehind(broker), Check.lookBehind(twin));
        }
    }

    // ---- promises 6 to 9

    /** Each what, 0 .. 12, at its least and at its most. */
    private static void abouts() {
        long[] none = new long[13];
        none[12] = 2;
        about(Check.shop("B0"), none);
        String text = "B9P0P9P5Q010Q191Q252Q053Q190D009D199D250D305D491";
        PluckBroker broker = Check.shop(text, "p0 p1 p2 p3 p4 d9 d g01 g01 g01 g01");
        for (int i = 0; i < 6; i++) {
            broker.ask(0, 1);
        }
        about(broker, 3, 5, 5, 10, 7, 0, 8, 23, 0, 31, 14, 6, 48);
        broker = Check.shop(text, "d9 d");
        about(broker, 3, 5, 5, 10, 36, 31, 0, 0, 31, 0, 10, 0, 48);
    }

    private static void about(PluckBroker broker, long... want) {
        for (int what = 0; what <= 12; what++) {
            due("6: about " + what, broker.about(what), want[what]);
        }
        for (int what : Check.outside(0, 12)) {
            due("6: about " + what, broker.about(what), -2);
        }
    }

    /** PERSONS 0 .. 2, what 0 .. 2; all QUALITIES and DEEDS are of one, or none. */
    private static void persons() {
        PluckBroker broker = Check.shop("B9P0P9P5Q210Q221Q232Q243Q250D000D100D200D300D400");
        long[][] want = {{0, 0, 0}, {9, 0, 0}, {5, 31, 31}};
        for (int person = 0; person <= 2; person++) {
            for (int what = 0; what <= 2; what++) {
                due("7: person " + person + ", " + what, broker.person(person, what), want[person][what]);
            }
            for (int what : Check.outside(0, 2)) {
                due("7: person " + person + ", " + what, broker.person(person, what), -2);
            }
        }
        for (int person : Check.outside(0, 2)) {
            due("7: person " + person, broker.person(person, 0), -1);
            due("7: UNKNOWN goes ahead: " + person, broker.person(person, 3), -1);
        }
        for (int persons = 0; persons <= 3; persons++) {
            broker = Check.shop("B0" + "P1P2P3".substring(0, 2 * persons));
            for (int person = 0; person <= 3; person++) {
                due("7: " + persons + ", " + person, broker.person(person, 0), person < persons ? person + 1 : -1);
            }
        }
        // whose they are does not change when they are PLEDGED and SOLD, or DONE and FAILED
        broker = Check.shop("B9P0P0Q010Q110Q013D020D100", "p0 p2 d9");
        due("7: its QUALITIES, SOLD and PLEDGED", broker.person(0, 1), 5);
        due("7: its DEEDS, FAILED", broker.person(0, 2), 1);
        due("7: its DEEDS, DONE", broker.person(1, 2), 2);
    }

    /** QUALITIES 0 .. 4, what 0 .. 5; WORTHS of 1 and 9, KINDS of 0 .. 3, HAD, PLEDGED and SOLD. */
    private static void qualities() {
        PluckBroker broker = Check.shop("B9P0P0P0Q010Q191Q232Q043Q290", "d p0 p3 d8 p1 d");
        long[][] want = {{0, 1, 0, 2, -9, 0}, {1, 9, 1, 1, 9, 11}, {2, 3, 2, 0, -9, 0}, {0, 4, 3, 1, 1, 4},
            {2, 9, 0, 0, -9, 0}};
        for (int quality = 0; quality <= 4; quality++) {
            for (int what = 0; what <= 5; what++) {
                due("8: quality " + quality + ", " + what, broker.quality(quality, what), want[quality][what]);
            }
            for (int what : Check.outside(0, 5)) {
                due("8: quality " + quality + ", " + what, broker.quality(quality, what), -2);
            }
        }
        for (int quality : Check.outside(0, 4)) {
            due("8: quality " + quality, broker.quality(quality, 0), -1);
            due("8: UNKNOWN goes ahead: " + quality, broker.quality(quality, 6), -1);
        }
        for (int qualities = 0; qualities <= 5; qualities++) {
            broker = Check.shop("B0P0" + "Q010Q020Q030Q040Q050".substring(0, 4 * qualities));
            for (int quality = 0; quality <= 5; quality++) {
                int worth = quality < qualities ? quality + 1 : -1;
                due("8: " + qualities + ", " + quality, broker.quality(quality, 1), worth);
            }
        }
        // THE DAY on which it was PLEDGED can be 0
        due("8: since THE DAY 0", Check.shop("B1P0Q010", "p0 d").quality(0, 4), 0);
    }

    /** DEEDS 0 .. 4, what 0 .. 3; DAYS and COINS of 0 and 9, open, DONE and FAILED. */
    private static void deeds() {
        PluckBroker broker = Check.shop("B9P0Q010Q020Q030Q040Q050D400D399D015D109D090", "d p0 d");
        long[][] want = {{4, 0, 0, 1}, {3, 9, 9, 0}, {0, 1, 5, 2}, {1, 0, 9, 1}, {0, 9, 0, 0}};
        for (int deed = 0; deed <= 4; deed++) {
            for (int what = 0; what <= 3; what++) {
                due("9: deed " + deed + ", " + what, broker.deed(deed, what), want[deed][what]);
            }
            for (int what : Check.outside(0, 3)) {
                due("9: deed " + deed + ", " + what, broker.deed(deed, what), -2);
            }
        }
        for (int deed : Check.outside(0, 4)) {
            due("9: deed " + deed, broker.deed(deed, 0), -1);
            due("9: UNKNOWN goes ahead: " + deed, broker.deed(deed, 4), -1);
        }
        for (int deeds = 0; deeds <= 5; deeds++) {
            broker = Check.shop("B0P0Q010" + "D000D010D020D030D040".substring(0, 4 * deeds));
            for (int deed = 0; deed <= 5; deed++) {
                due("9: " + deeds + ", " + deed, broker.deed(deed, 1), deed < deeds ? deed : -1);
            }
        }
    }
}
