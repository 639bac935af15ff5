/** Promises 10 to 14: days, pledged, redeemed, given, undone. */
public final class ActsTest {
    private static final Check CHECK = new Check();
    private static final int MIN = Integer.MIN_VALUE, MAX = Integer.MAX_VALUE;

    public static void main(String[] args) {
        daysAndDeeds();
        sold();
        pledging();
        redeeming();
        whatIsDue();
        giving();
        undoing();
        theFirstActIsForgotten();
        CHECK.end();
    }

    private static void daysAndDeeds() {
        PluckBroker broker = Check.shop("B2P0P0Q030Q140D002D103D004D016D027");
        CHECK.due("day 0: three deeds", broker.day(), 3);
        CHECK.due("day 0: the day", broker.about(3), 1);
        CHECK.due("day 0: done", broker.about(8), 7);
        CHECK.due("day 0: failed", broker.about(9), 0);
        CHECK.due("day 0: purse of 0", broker.person(0, 0), 6);
        CHECK.due("day 0: purse of 1", broker.person(1, 0), 3);
        CHECK.due("day 0: the till stays", broker.about(4), 8);
        CHECK.due("pledge", broker.pledge(0), 5);
        CHECK.due("day 1: not had", broker.day(), 0);
        CHECK.due("day 1: failed", broker.about(9), 8);
        CHECK.due("day 1: no coins", broker.person(0, 0), 9);
        CHECK.due("redeem", broker.redeem(0), 5);
        CHECK.due("day 2: had again", broker.day(), 1);
        CHECK.due("day 2: coins", broker.person(0, 0), 12);
        CHECK.due("day 2: failed stays", broker.about(9), 8);
        CHECK.due("day 3: none", broker.day(), 0);
        CHECK.due("nobody: day", new PluckBroker().day(), 0);
    }

    /** Nine days after it was pledged it is sold, a keepsake never; the deed of that day finds it pledged. */
    private static void sold() {
        PluckBroker broker = Check.shop("B9P9Q010Q021Q032Q043D090D390");
        broker.day();
        for (int quality = 0; quality < 4; quality++) {
            broker.pledge(quality);
        }
        for (int i = 0; i < 8; i++) {
            broker.day();
        }
        CHECK.due("eight days: pledged", broker.about(6), 15);
        CHECK.due("eight days: redeemed yet", broker.redeem(0), 10);
        CHECK.due("eight days: undone", broker.undo(), 13);
        CHECK.due("ninth day", broker.day(), 0);
        CHECK.due("nine days: sold", broker.about(7), 7);
        CHECK.due("nine days: pledged", broker.about(6), 8);
        CHECK.due("nine days: had", broker.about(5), 0);
        CHECK.due("nine days: failed", broker.about(9), 3);
        CHECK.due("nine days: the till has no more", broker.about(4), 26);
        CHECK.due("nine days: purse", broker.person(0, 0), 19);
        for (int quality = 0; quality < 3; quality++) {
            CHECK.due("sold: pledge", broker.pledge(quality), -3);
            CHECK.due("sold: redeem", broker.redeem(quality), -3);
            CHECK.due("sold: due", broker.quality(quality, 5), 0);
            CHECK.due("sold: since", broker.quality(quality, 4), -9);
            CHECK.due("sold: whose", broker.person(0, 1), 15);
        }
        for (int i = 0; i < 300; i++) {
            broker.day();
        }
        CHECK.due("keepsake: pledged", broker.quality(3, 3), 1);
        CHECK.due("keepsake: since", broker.quality(3, 4), 1);
        CHECK.due("keepsake: due", broker.quality(3, 5), 4);
        CHECK.due("keepsake: redeem", broker.redeem(3), 15);
        CHECK.due("keepsake: the day", broker.about(3), 310);
        soldLaterAgain();
    }

    /** Pledged anew, the days are told from then. */
    private static void soldLaterAgain() {
        PluckBroker broker = Check.shop("B9P9Q010");
        broker.pledge(0);
        for (int i = 0; i < 8; i++) {
            broker.day();
        }
        broker.redeem(0);
        broker.day();
        CHECK.due("redeemed, not sold", broker.quality(0, 3), 0);
        broker.pledge(0);
        CHECK.due("since anew", broker.quality(0, 4), 9);
        for (int i = 0; i < 8; i++) {
            broker.day();
        }
        CHECK.due("pledged yet", broker.quality(0, 3), 1);
        broker.day();
        CHECK.due("sold then", broker.quality(0, 3), 2);
    }

    private static void pledging() {
        PluckBroker broker = Check.shop("B1P0P1Q030Q110Q110");
        for (int quality : new int[] {MIN, -1, 3, 5, MAX}) {
            CHECK.due("pledge " + quality, broker.pledge(quality), -1);
        }
        CHECK.due("pledge: the till", broker.pledge(0), 1);
        CHECK.due("pledge: purse", broker.person(0, 0), 3);
        CHECK.due("pledge: since", broker.quality(0, 4), 0);
        CHECK.due("pledge: not had", broker.pledge(0), -3);
        CHECK.due("pledge: the till has as much", broker.pledge(2), 0);
        CHECK.due("pledge: the till has less", broker.pledge(1), -3);
        CHECK.due("pledge refused: purse", broker.person(1, 0), 2);
        CHECK.due("pledge refused: had", broker.about(5), 2);
        CHECK.due("pledge refused: acts", broker.about(10), 2);
        CHECK.due("nobody: pledge", new PluckBroker().pledge(0), -1);
    }

    private static void redeeming() {
        PluckBroker broker = Check.shop("B1P0P0Q021Q120");
        for (int quality : new int[] {MIN, -1, 2, MAX}) {
            CHECK.due("redeem " + quality, broker.redeem(quality), -1);
        }
        CHECK.due("redeem: had", broker.redeem(0), -3);
        broker.pledge(0);
        broker.pledge(1);
        CHECK.due("redeem at once", broker.redeem(1), 0);
        broker.day();
        CHECK.due("redeem: has less", broker.redeem(0), -3);
        broker.give(0, 1);
        CHECK.due("redeem: has less yet", broker.redeem(0), -3);
        CHECK.due("redeem refused: acts", broker.about(10), 5);
        CHECK.due("redeem refused: till", broker.about(4), 2);
        broker.give(0, 3);
        CHECK.due("redeem", broker.redeem(0), 2);
        CHECK.due("redeem: the till", broker.about(4), 6);
        CHECK.due("redeem: had", broker.about(5), 3);
        CHECK.due("redeem: not pledged", broker.redeem(0), -3);
        CHECK.due("redeem: the other's purse", broker.person(1, 0), 0);
        broker.give(1, 2);
        broker.pledge(1);
        broker.day();
        CHECK.due("redeem: has as much", broker.redeem(1), 1);
        CHECK.due("nobody: redeem", new PluckBroker().redeem(0), -1);
    }

    private static void whatIsDue() {
        PluckBroker broker = Check.shop("B9P9Q050Q051Q052Q053Q092");
        for (int quality = 0; quality < 4; quality++) {
            CHECK.due("had: due", broker.quality(quality, 5), 0);
            broker.pledge(quality);
        }
        int[] plain = {5, 6, 7, 8, 9, 10, 11, 12, 13};
        int[] claim = {5, 7, 9, 11, 13, 15, 17, 19, 21};
        int[] pluck = {5, 6, 7, 8, 9, 10, 5, 12, 13};
        for (int k = 0; k <= 8; k++) {
            CHECK.due("plain " + k, broker.quality(0, 5), plain[k]);
            CHECK.due("claim " + k, broker.quality(1, 5), claim[k]);
            CHECK.due("pluck " + k, broker.quality(2, 5), pluck[k]);
            CHECK.due("keepsake " + k, broker.quality(3, 5), 5);
            broker.day();
        }
        broker.pledge(4);
        for (int day = 9; day < 18; day++) {
            CHECK.due("later pluck " + day, broker.quality(4, 5), day == 13 ? 9 : day);
            broker.day();
        }
        CHECK.due("later pluck, sold", broker.quality(4, 5), 0);
    }

    private static void giving() {
        PluckBroker broker = Check.shop("B0P0P1");
        for (int person : new int[] {MIN, -1, 2, 3, MAX}) {
            CHECK.due("give " + person, broker.give(person, 1), -1);
            CHECK.due("give bad " + person, broker.give(person, 0), -1);
        }
        for (int n : new int[] {MIN, -1, 0, 10, MAX}) {
            CHECK.due("give 0 " + n, broker.give(0, n), -2);
        }
        CHECK.due("give refused: acts", broker.about(10), 0);
        CHECK.due("give 1", broker.give(0, 1), 1);
        CHECK.due("give 9", broker.give(1, 9), 10);
        CHECK.due("give 9 more", broker.give(1, 9), 19);
        CHECK.due("give: purse 0", broker.person(0, 0), 1);
        CHECK.due("give: the till stays", broker.about(4), 0);
        CHECK.due("give: acts", broker.about(10), 3);
    }

    private static void undoing() {
        PluckBroker broker = Check.shop("B3P2P5Q030Q140D001D100");
        CHECK.due("undo: none", broker.undo(), -3);
        long[][] ahead = new long[6][];
        ahead[0] = Check.look(broker);
        broker.pledge(0);
        ahead[1] = Check.look(broker);
        broker.day();
        ahead[2] = Check.look(broker);
        broker.give(1, 7);
        ahead[3] = Check.look(broker);
        broker.redeem(0);
        ahead[4] = Check.look(broker);
        for (int i = 4; i >= 1; i--) {
            CHECK.row("undo: ahead of " + i, Check.look(broker), ahead[i]);
            CHECK.due("undo " + i, broker.undo(), i - 1);
        }
        CHECK.row("undo: all", Check.look(broker), ahead[0]);
        CHECK.due("undo: no more", broker.undo(), -3);
        CHECK.row("undo refused", Check.look(broker), ahead[0]);
        soldIsUndone();
        neitherActNorUndone();
    }

    private static void soldIsUndone() {
        PluckBroker broker = Check.shop("B3P2Q030D080");
        broker.pledge(0);
        for (int i = 0; i < 9; i++) {
            broker.day();
        }
        CHECK.due("sold", broker.about(7), 1);
        CHECK.due("failed", broker.about(9), 1);
        CHECK.due("undo the sale", broker.undo(), 9);
        CHECK.due("not sold", broker.quality(0, 3), 1);
        CHECK.due("since", broker.quality(0, 4), 0);
        CHECK.due("open again", broker.deed(0, 3), 0);
        CHECK.due("the day", broker.about(3), 8);
        CHECK.due("due", broker.quality(0, 5), 11);
    }

    /** What is asked, the seed, the text and what is kept are no acts, and stay when an act is undone. */
    private static void neitherActNorUndone() {
        PluckBroker broker = Check.shop("B3P2Q030");
        broker.give(0, 1);
        broker.ask(0, 3);
        broker.seed(5);
        broker.keep(0);
        broker.write('x');
        broker.years(2);
        CHECK.due("acts", broker.about(10), 1);
        CHECK.due("undo", broker.undo(), 0);
        CHECK.due("asked stays", broker.about(11), 1);
        CHECK.due("text stays", broker.about(12), 9);
        CHECK.due("the seed stays", broker.seed(0) == 5 ? 1 : 0, 0);
        CHECK.due("kept stays", broker.again(0), 0);
        CHECK.due("kept stays: purse", broker.person(0, 0), 3);
    }

    private static void theFirstActIsForgotten() {
        PluckBroker broker = Check.shop("B0P0");
        for (int i = 1; i <= 20; i++) {
            CHECK.due("give", broker.give(0, 1), i);
            CHECK.due("acts", broker.about(10), Math.min(i, 14));
        }
        for (int i = 13; i >= 8; i--) {
            CHECK.due("undo", broker.undo(), i);
        }
        CHECK.due("purse", broker.person(0, 0), 14);
        for (int i = 0; i < 3; i++) {
            CHECK.due("day", broker.day(), 0);
        }
        CHECK.due("acts", broker.about(10), 11);
        for (int i = 10; i >= 0; i--) {
            CHECK.due("undo", broker.undo(), i);
        }
        CHECK.due("undo: none left", broker.undo(), -3);
        CHECK.due("purse in the end", broker.person(0, 0), 6);
        CHECK.due("day in the end", broker.about(3), 0);
    }
}
