/** The bounds that promises 29 and 30 name, and the 512 calls for which an object is used. */
public final class BoundsOfSlotsTest {
    private static final Check CHECK = new Check();
    private static final String TEXT = "B9P1P2P3Q010Q121Q232Q043Q150D009D115D223D337D492";

    public static void main(String[] args) {
        twoSlots();
        noneKept();
        nobodyKept();
        whatIsKept();
        noActs();
        keptOver();
        keptFromTheOther();
        goneWithTheShop();
        manyDays();
        manyCoins();
        manyActs();
        manyLetters();
        manyQuestions();
        manyPledges();
        CHECK.end();
    }

    private static void due(String promise, long got, long want) {
        CHECK.due("promise " + promise, got, want);
    }

    /** "SLOTS 0 .. 1", and those next to them. */
    private static void twoSlots() {
        for (int slot = -1; slot <= 33; slot++) {
            PluckBroker broker = Check.shop(TEXT, "d");
            boolean known = slot == 0 || slot == 1;
            due("30: none kept, again " + slot, broker.again(slot), known ? -3 : -1);
            due("29: keep " + slot, broker.keep(slot), known ? 1 : -1);
            due("30: again " + slot, broker.again(slot), known ? 1 : -1);
            due("30: the other, " + slot, broker.again(1 - slot), known ? -3 : -1);
        }
        PluckBroker broker = Check.shop(TEXT, "d");
        broker.keep(0);
        broker.keep(1);
        for (int slot : Check.outside(0, 1)) {
            due("29: keep " + slot, broker.keep(slot), -1);
            due("30: again " + slot, broker.again(slot), -1);
        }
        due("29: no ACT", broker.about(10), 1);
    }

    /** "LATE: none were kept": each SLOT for itself. */
    private static void noneKept() {
        for (int slot = 0; slot <= 1; slot++) {
            PluckBroker broker = Check.shop(TEXT, "d p0");
            broker.keep(slot);
            long[] was = Check.look(broker);
            due("30: the other one", broker.again(1 - slot), -3);
            CHECK.row("promise 30: refused", Check.look(broker), was);
            due("30: ACTS stay", broker.undo(), 1);
            due("30: this one", broker.again(slot), 1);
        }
    }

    /** A shop with nobody in it, or none at all, is kept like another. */
    private static void nobodyKept() {
        PluckBroker broker = new PluckBroker();
        due("29: no shop", broker.keep(0), 0);
        broker.day();
        due("29: no shop, a DAY on", broker.keep(1), 1);
        due("30: no shop", broker.again(0), 0);
        due("30: no shop, THE DAY", broker.about(3), 0);
        due("30: no shop, a DAY on", broker.again(1), 1);
        due("30: no shop, THE DAY then", broker.about(3), 1);
        broker = Check.shop("B9", "d9");
        due("29: nobody", broker.keep(0), 9);
        Check.live(broker, "d");
        due("30: nobody", broker.again(0), 9);
        due("30: nobody, THE TILL", broker.about(4), 36);
    }

    /** "THE TILL, COINS, what QUALITIES, DEEDS are, since when, THE DAY", of the last and the first of each. */
    private static void whatIsKept() {
        String[] lives = {"", "p0 p4", "d", "p4 d", "p1 p3 d9", "p0 p1 p2 p3 p4 d9 d", "d9 p4 p0 d8 g19 r4",
            "g09 g19 g29", "d4 p2 d4 p3 d3", "p4 d3 g19 r4 p4 d7"};
        for (String life : lives) {
            for (int slot = 0; slot <= 1; slot++) {
                PluckBroker broker = Check.shop(TEXT, life);
                long[] kept = Check.look(broker);
                int day = broker.about(3);
                due("29: THE DAY", broker.keep(slot), day);
                CHECK.row("promise 29: nothing is changed", Check.look(broker), kept);
                Check.live(broker, "g01 d9 g29");
                broker.pledge(0);
                broker.pledge(3);
                broker.redeem(4);
                due("30: THE DAY", broker.again(slot), day);
                kept[10] = 0;
                CHECK.row("promise 30: as it was behind " + life, Check.look(broker), kept);
                due("30: goes on", broker.done(20), Check.shop(TEXT, life).done(20));
                Check.live(broker, "d u");
                CHECK.row("promise 30: gone on, undone", Check.look(broker), kept);
            }
        }
    }

    /** "(no ACTS when one goes on)": of 1, 14, 15; and none of what was kept. */
    private static void noActs() {
        for (int many : new int[] {0, 1, 13, 14, 15}) {
            PluckBroker broker = Check.shop("B0P0", many == 0 ? "" : "d" + many);
            broker.keep(1);
            due("29: ACTS stay", broker.about(10), Math.min(many, 14));
            due("30: again", broker.again(1), many);
            due("30: no ACTS", broker.about(10), 0);
            due("30: undo", broker.undo(), -3);
            due("30: THE DAY stays", broker.about(3), many);
            for (int i = 1; i <= 15; i++) {
                broker.day();
                due("30: ACTS of what goes on", broker.about(10), Math.min(i, 14));
            }
            for (int i = 13; i >= 0; i--) {
                due("14: undone behind it", broker.undo(), i);
            }
            due("14: the first one is forgotten", broker.about(3), many + 1);
        }
    }

    /** What is kept in a SLOT is kept over what was there; one goes on from it as often as one likes. */
    private static void keptOver() {
        PluckBroker broker = Check.shop("B9P0Q010");
        for (int i = 0; i < 20; i++) {
            due("29: keep over", broker.keep(i % 2), i);
            Check.live(broker, "d");
        }
        due("30: the last of 0", broker.again(0), 18);
        due("30: the last of 1", broker.again(1), 19);
        for (int i = 0; i < 5; i++) {
            Check.live(broker, "g09 d9");
            due("30: as often as one likes", broker.again(0), 18);
            due("30: COINS", broker.person(0, 0), 0);
        }
    }

    private static void keptFromTheOther() {
        PluckBroker broker = Check.shop("B9P0Q010", "p0 d");
        broker.keep(0);
        Check.live(broker, "g05 r0 d");
        due("29: keep 1", broker.keep(1), 2);
        due("30: again 0", broker.again(0), 1);
        due("29: 0 in 1", broker.keep(1), 1);
        Check.live(broker, "d");
        due("30: again 1", broker.again(1), 1);
        due("30: PLEDGED", broker.quality(0, 3), 1);
        due("30: since", broker.quality(0, 4), 0);
    }

    /** "what was kept is gone" with a new shop; a refused one leaves it. */
    private static void goneWithTheShop() {
        PluckBroker broker = Check.shop("B9P0Q010", "d");
        broker.keep(0);
        broker.keep(1);
        broker.write('x');
        due("5: refused", broker.shop(), -3);
        due("30: 0 is there yet", broker.again(0), 1);
        due("30: 1 is there yet", broker.again(1), 1);
        Check.write(broker, "B9P0Q010");
        broker.shop();
        due("30: 0 is gone", broker.again(0), -3);
        due("30: 1 is gone", broker.again(1), -3);
        due("29: 1 anew", broker.keep(1), 0);
        due("30: 0 is gone yet", broker.again(0), -3);
        due("30: 1 anew", broker.again(1), 0);
    }

    // ---- "An object is used for at most 512 calls after it has been made"

    /** 12 bytes and the shop are 13 calls, the pledge is one; 497 DAYS behind them one is left. */
    private static void manyDays() {
        int[] want = {1, 1, 1, 497, 27, 0, 1, 0, 0, 1, 14, 0, 12};
        for (int what = 0; what <= 12; what++) {
            due("6: the 512th call, about " + what, days(497).about(what), want[what]);
        }
        due("10: the 512th call", days(497).day(), 0);
        due("12: the 512th call", days(497).redeem(0), 0);
        due("13: the 512th call", days(497).give(0, 9), 18);
        due("14: the 512th call", days(497).undo(), 13);
        due("15: the 512th call", days(497).due(0, 20), 9);
        due("16: the 512th call", days(497).done(20), 0);
        due("17: the 512th call", days(497).coins(0, 20), 9);
        due("18: the 512th call", days(497).raise(0, 9, 0), 0);
        due("19: the 512th call", days(497).back(0), 0);
        due("20: the 512th call", days(497).judge(4, 200L), -9);
        due("21: the 512th call", days(497).share(0, false), 1);
        due("26: the 512th call", days(497).sales(0, 10, true), 1);
        due("28: the 512th call", days(497).years(30) > 0 ? 1 : 0, 1);
        due("29: the 512th call", days(497).keep(1), 497);
        due("8: the 512th call", days(497).quality(0, 5), 9);
        due("9: the 512th call", days(497).deed(0, 3), 2);
        PluckBroker nobody = new PluckBroker();
        for (int i = 1; i <= 511; i++) {
            nobody.day();
        }
        due("6: THE DAY behind 511", nobody.about(3), 511);
    }

    private static PluckBroker days(int days) {
        PluckBroker broker = new PluckBroker();
        for (char letter : "B9P0Q093D099".toCharArray()) {
            broker.write(letter);
        }
        broker.shop();
        broker.pledge(0);
        for (int i = 0; i < days; i++) {
            broker.day();
        }
        return broker;
    }

    private static void manyCoins() {
        PluckBroker broker = new PluckBroker();
        for (char letter : "B0P9".toCharArray()) {
            broker.write(letter);
        }
        broker.shop();
        for (int i = 1; i <= 507; i++) {
            due("13: COINS of " + i, broker.give(0, 9), 9 + 9 * i);
        }
    }

    /** 254 times one ACT is done and undone; the row of ACTS goes round and round. */
    private static void manyActs() {
        PluckBroker broker = new PluckBroker();
        for (int i = 0; i < 254; i++) {
            due("10: a DAY", broker.day(), 0);
            due("14: undone", broker.undo(), 0);
        }
        due("14: none left", broker.undo(), -3);
        due("6: THE DAY", broker.about(3), 0);
        broker = new PluckBroker();
        for (int i = 0; i < 490; i++) {
            broker.day();
        }
        for (int left = 13; left >= 0; left--) {
            due("14: behind 490", broker.undo(), left);
        }
        due("14: behind 490, none left", broker.undo(), -3);
        due("6: THE DAY behind 490", broker.about(3), 476);
    }

    private static void manyLetters() {
        PluckBroker broker = new PluckBroker();
        for (int i = 1; i <= 511; i++) {
            due("2: write " + i, broker.write('B'), i <= 48 ? i : -4);
        }
        due("4: the 512th call", broker.fault(), 1);
        broker = new PluckBroker();
        for (int i = 1; i <= 255; i++) {
            due("2: the first byte", broker.write(i), 1);
            due("3: wiped", broker.wipe(), 1);
        }
        due("3: empty", broker.wipe(), 0);
    }

    /** Questions may be put again and again: the answer is the same each time. */
    private static void manyQuestions() {
        PluckBroker broker = Check.shop(TEXT, "p0 p4 d");
        for (int i = 0; i < 50; i++) {
            due("15: due", broker.due(4, 8), 0);
            due("16: done", broker.done(20), 14);
            due("17: coins", broker.coins(0, 20), 9);
            due("18: raise", broker.raise(1, 8, 1), 0);
            due("19: back", broker.back(4), 0);
            due("20: judge", broker.judge(2, 101204L), -9);
            due("21: share", broker.share(1, true), 1);
            due("26: sales", broker.sales(5, 3, true), 0);
        }
        for (int i = 0; i < 40; i++) {
            due("22: ask", broker.ask(0, 4), i < 6 ? i + 1 : -4);
        }
    }

    /** PLEDGED and REDEEMED on one DAY for nothing, 248 times; SATURDAYS are told far on, too. */
    private static void manyPledges() {
        PluckBroker broker = Check.shop("B1P0Q042");
        for (int i = 0; i < 248; i++) {
            due("11: THE TILL", broker.pledge(0), 0);
            due("12: COINS", broker.redeem(0), 0);
        }
        broker = Check.shop("B1P0Q042", "d400 p0");
        for (int n = 0; n <= 8; n++) {
            due("15: PLUCK in " + n + ", from 400", broker.due(0, n), n == 5 ? 4 : 4 + n);
        }
        Check.live(broker, "d8");
        due("10: PLEDGED yet", broker.quality(0, 3), 1);
        Check.live(broker, "d");
        due("10: SOLD", broker.quality(0, 3), 2);
    }
}
