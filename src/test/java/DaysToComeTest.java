/** Promises 15 to 21: due, done, coins, raise, back, judge, share; none of them changes a thing. */
public final class DaysToComeTest {
    private static final Check CHECK = new Check();
    private static final int MIN = Integer.MIN_VALUE, MAX = Integer.MAX_VALUE;

    public static void main(String[] args) {
        due();
        done();
        coins();
        raise();
        raiseOfLikeOnes();
        raiseRefused();
        back();
        judge();
        judgeFigures();
        judgeRefused();
        share();
        nothingIsChanged();
        CHECK.end();
    }

    private static void due() {
        PluckBroker broker = Check.shop("B9P9Q050Q051Q052Q053Q090");
        broker.day();
        for (int quality = 0; quality < 4; quality++) {
            broker.pledge(quality);
        }
        int[] plain = {5, 6, 7, 8, 9, 10, 11, 12, 13};
        int[] claim = {5, 7, 9, 11, 13, 15, 17, 19, 21};
        int[] pluck = {5, 6, 7, 8, 9, 5, 11, 12, 13};
        for (int n = 0; n <= 20; n++) {
            CHECK.due("plain in " + n, broker.due(0, n), n < 9 ? plain[n] : 0);
            CHECK.due("claim in " + n, broker.due(1, n), n < 9 ? claim[n] : 0);
            CHECK.due("pluck in " + n, broker.due(2, n), n < 9 ? pluck[n] : 0);
            CHECK.due("keepsake in " + n, broker.due(3, n), 5);
            CHECK.due("had in " + n, broker.due(4, n), 0);
        }
        for (int n : new int[] {MIN, -1, 21, MAX}) {
            CHECK.due("due 0 in " + n, broker.due(0, n), -2);
            CHECK.due("due 5 in " + n, broker.due(5, n), -1);
        }
        for (int quality : new int[] {MIN, -1, 5, MAX}) {
            CHECK.due("due " + quality, broker.due(quality, 0), -1);
        }
        for (int i = 0; i < 9; i++) {
            broker.day();
        }
        CHECK.due("sold", broker.due(0, 0), 0);
        broker.pledge(4);
        CHECK.due("pledged later", broker.due(4, 3), 12);
    }

    private static void done() {
        PluckBroker broker = Check.shop("B2P0P0Q030Q140D002D113D024D036D197");
        int[] open = {0, 1, 3, 7, 15, 15, 15, 15, 15, 15, 31};
        for (int n = 0; n <= 20; n++) {
            CHECK.due("done in " + n, broker.done(n), open[Math.min(n, 10)]);
        }
        broker.day();
        broker.pledge(0);
        CHECK.due("done already", broker.done(0), 1);
        CHECK.due("done in 1, one pledged", broker.done(1), 3);
        CHECK.due("done in 8, one pledged", broker.done(8), 3);
        CHECK.due("done in 20, one pledged", broker.done(20), 19);
        for (int n : new int[] {MIN, -1, 21, MAX}) {
            CHECK.due("done in " + n, broker.done(n), -2);
        }
        CHECK.due("nobody: done", new PluckBroker().done(20), 0);
    }

    private static void coins() {
        PluckBroker broker = Check.shop("B2P1P0Q030Q140D002D113D024D036D197");
        int[] zero = {1, 3, 3, 7, 13};
        for (int n = 0; n <= 20; n++) {
            CHECK.due("coins of 0 in " + n, broker.coins(0, n), zero[Math.min(n, 4)]);
            CHECK.due("coins of 1 in " + n, broker.coins(1, n), n < 2 ? 0 : n < 10 ? 3 : 10);
        }
        broker.pledge(0);
        CHECK.due("coins, pledged", broker.coins(0, 0), 4);
        CHECK.due("coins, pledged, in 20", broker.coins(0, 20), 4);
        for (int n : new int[] {MIN, -1, 21, MAX}) {
            CHECK.due("coins in " + n, broker.coins(0, n), -2);
            CHECK.due("coins of 2 in " + n, broker.coins(2, n), -1);
        }
        for (int person : new int[] {MIN, -1, 2, 3, MAX}) {
            CHECK.due("coins of " + person, broker.coins(person, 0), -1);
        }
    }

    private static void raise(PluckBroker broker, int person, int v, int which, int many) {
        CHECK.due("raise " + person + " " + v + " which", broker.raise(person, v, 0), which);
        CHECK.due("raise " + person + " " + v + " how many", broker.raise(person, v, 1), many);
    }

    private static void raise() {
        // of 0: qualities 0 (5, two deeds), 1 (5, one deed), 3 (4, none); of 1: quality 2, two deeds
        PluckBroker broker = Check.shop("B5P2P0Q050Q050Q190Q040D000D020D111D230D231");
        raise(broker, 0, 0, 0, 3);
        raise(broker, 0, 2, 0, 3);
        raise(broker, 0, 3, 8, 3);
        raise(broker, 0, 6, 8, 3);
        raise(broker, 0, 7, 2, 2);
        raise(broker, 0, 11, 10, 2);
        raise(broker, 0, 12, 3, 0);
        raise(broker, 0, 16, 11, 0);
        raise(broker, 0, 17, -9, -9);
        raise(broker, 0, 60, -9, -9);
        raise(broker, 1, 9, 4, 0);
        raise(broker, 1, 10, -9, -9);
        broker.day();
        broker.pledge(3);
        // quality 0 has but one deed to lose then: of like ones it is the least
        raise(broker, 0, 6, 0, 3);
        raise(broker, 0, 7, 1, 2);
        raise(broker, 0, 12, 3, 1);
        // the till has 16 - 9 = 7 then: both are too much
        broker.pledge(2);
        raise(broker, 0, 11, 1, 2);
        raise(broker, 0, 12, -9, -9);
    }

    private static void raiseOfLikeOnes() {
        // as many deeds: fewest qualities, then the least bits
        PluckBroker broker = Check.shop("B9P0Q020Q030Q050Q050D000");
        raise(broker, 0, 5, 4, 1);
        raise(broker, 0, 2, 2, 1);
        raise(broker, 0, 8, 6, 1);
        raise(broker, 0, 6, 6, 1);
        raise(broker, 0, 13, 14, 1);
        raise(broker, 0, 15, 15, 0);
        // most deeds go ahead of fewest qualities
        broker = Check.shop("B9P0Q090Q030Q030Q030D000");
        raise(broker, 0, 9, 14, 1);
        raise(broker, 0, 10, 3, 0);
        broker = Check.shop("B9P0Q030Q030Q030Q090D300");
        raise(broker, 0, 9, 7, 1);
        // fewest qualities go ahead of the least bits
        broker = Check.shop("B9P0Q020Q030Q050");
        raise(broker, 0, 5, 4, 0);
        // a deed that is done already counts, one that failed does not
        broker = Check.shop("B9P0Q020Q030D002D015D110");
        broker.day();
        raise(broker, 0, 5, 2, 2);
        broker.pledge(0);
        broker.day();
        raise(broker, 0, 0, 0, 2);
        raise(broker, 0, 5, 2, 2);
        // none of the other's deeds
        broker = Check.shop("B9P0P0Q020Q130D100D110");
        raise(broker, 0, 1, 1, 0);
        raise(broker, 0, 0, 0, 0);
        // a sum in the purse is enough, a deed's coins come too late
        broker = Check.shop("B0P3Q010D009");
        raise(broker, 0, 3, 0, 1);
        raise(broker, 0, 4, -9, -9);
    }

    private static void raiseRefused() {
        PluckBroker broker = Check.shop("B9P0Q020");
        for (int person : new int[] {MIN, -1, 1, 3, MAX}) {
            CHECK.due("raise of " + person, broker.raise(person, 0, 0), -1);
            CHECK.due("raise of " + person + ", bad", broker.raise(person, 61, 2), -1);
        }
        for (int bad : new int[] {MIN, -1, 61, MAX}) {
            CHECK.due("raise v " + bad, broker.raise(0, bad, 0), -2);
        }
        for (int bad : new int[] {MIN, -1, 2, MAX}) {
            CHECK.due("raise what " + bad, broker.raise(0, 0, bad), -2);
        }
        CHECK.due("raise of none", broker.raise(0, 60, 0), -9);
    }

    private static void back() {
        PluckBroker broker = Check.shop("B9P0P0Q030Q131Q141D254D267");
        for (int quality : new int[] {MIN, -1, 3, MAX}) {
            CHECK.due("back " + quality, broker.back(quality), -1);
        }
        CHECK.due("back: had", broker.back(0), -3);
        broker.pledge(0);
        broker.pledge(1);
        CHECK.due("back at once", broker.back(0), 0);
        broker.day();
        CHECK.due("back never", broker.back(0), -9);
        // of 1: 3 coins, 5 is due, two more each day; 4 come on day 5, 7 on day 6: 14 when 17 is due
        CHECK.due("back too late", broker.back(1), -9);
        broker.give(1, 3);
        CHECK.due("back now", broker.back(1), 0);
        broker.day();
        CHECK.due("back later", broker.back(1), 5);
        broker.day();
        CHECK.due("back later, a day on", broker.back(1), 4);
        for (int i = 0; i < 6; i++) {
            broker.day();
        }
        CHECK.due("back: sold", broker.back(1), -3);
        saturdayBack();
        keepsakeBack();
    }

    private static void saturdayBack() {
        PluckBroker broker = Check.shop("B9P0Q032");
        broker.pledge(0);
        broker.day();
        CHECK.due("back on Saturday", broker.back(0), 5);
        for (int i = 0; i < 6; i++) {
            broker.day();
        }
        CHECK.due("behind Saturday", broker.back(0), -9);
    }

    /** A keepsake is never sold, and what is due for it never grows. */
    private static void keepsakeBack() {
        // it has spent what it had on the other one, whose deeds bring it back
        PluckBroker broker = Check.shop("B9P0Q093Q091D194D186");
        broker.pledge(0);
        broker.pledge(1);
        for (int i = 0; i < 4; i++) {
            broker.day();
        }
        CHECK.due("claim: back", broker.redeem(1), 1);
        CHECK.due("keepsake: when both deeds are done", broker.back(0), 6);
        broker.day();
        CHECK.due("keepsake: a day later", broker.back(0), 5);
        broker = Check.shop("B9P0Q093Q091");
        broker.pledge(0);
        broker.pledge(1);
        broker.day();
        broker.redeem(1);
        CHECK.due("keepsake: two are missing", broker.person(0, 0), 7);
        CHECK.due("keepsake: never", broker.back(0), -9);
        for (int i = 0; i < 40; i++) {
            broker.day();
        }
        CHECK.due("keepsake: not yet", broker.back(0), -9);
        broker.give(0, 2);
        CHECK.due("keepsake: at once", broker.back(0), 0);
    }

    private static void judge(PluckBroker broker, int n, long row, int want) {
        CHECK.due("judge " + n + " " + row, broker.judge(n, row), want);
    }

    private static void judge() {
        PluckBroker broker = Check.shop("B3P2P0Q050Q031Q142Q123D014D137D209D322D260");
        judge(broker, 1, 0, -9);
        judge(broker, 1, 100, -9);
        judge(broker, 1, 104, 0);
        judge(broker, 2, 100100, 1);
        judge(broker, 2, 100200, -9);
        judge(broker, 3, 100000200, -9);
        judge(broker, 4, 101000000201L, -9);
        judge(broker, 4, 101000000000L, -9);
        judge(broker, 3, 100101102, -9);
        judge(broker, 4, 100101102103L, 3);
        judge(broker, 1, 201, 0);
        judge(broker, 2, 402, -9);
        judge(broker, 2, 402000, 0);
        judge(broker, 2, 403, 1);
        judge(broker, 3, 402501, -9);
        judge(broker, 3, 402503, 2);
    }

    /** Each figure that tells nothing can not be; each that does is done ahead of the next. */
    private static void judgeFigures() {
        PluckBroker broker = Check.shop("B3P2P0Q050Q130D009D105");
        for (int figures = 0; figures < 1000; figures++) {
            // an object is used for 512 calls at most
            PluckBroker one = Check.shop("B3P2P0Q050Q130D009D105");
            judge(one, 1, figures, isSoAtFirst(figures) ? -9 : 0);
        }
        judge(broker, 3, 400L, -9);
        judge(broker, 2, 400000L, 0);
        judge(broker, 2, 401L, -9);
        judge(broker, 2, 402L, 1);
        judge(broker, 2, 311511L, -9);
        judge(broker, 2, 311512L, 1);
        judge(broker, 2, 100507L, -9);
        judge(broker, 2, 100508L, 1);
        judge(broker, 3, 100000400L, 2);
        judge(broker, 3, 100000401L, -9);
        judge(broker, 2, 515L, -9);
        judge(broker, 2, 516L, 1);
        judge(broker, 4, 100101000200L, -9);
        judge(broker, 4, 101000000201L, 3);
        judge(broker, 4, 0L, -9);
        judge(broker, 4, 999999999999L, 0);
        judge(broker, 4, 999L, 3);
        judge(broker, 4, 999999L, 2);
        judge(broker, 4, 999999999L, 1);
    }

    private static boolean isSoAtFirst(int figures) {
        if (figures == 0 || figures == 100 || figures == 101) {
            return true;
        }
        boolean given = figures >= 301 && figures <= 309 || figures >= 311 && figures <= 319;
        boolean has = figures >= 500 && figures <= 502 || figures == 510;
        return given || has;
    }

    private static void judgeRefused() {
        PluckBroker broker = Check.shop("B3P2");
        for (int n : new int[] {MIN, -1, 0, 5, MAX}) {
            judge(broker, n, 0, -2);
        }
        long limit = 1;
        for (int n = 1; n <= 4; n++) {
            limit *= 1000;
            judge(broker, n, -1, -2);
            judge(broker, n, Long.MIN_VALUE, -2);
            judge(broker, n, limit, -2);
            judge(broker, n, Long.MAX_VALUE, -2);
            judge(broker, n, limit - 1, 0);
        }
    }

    private static void share(PluckBroker broker, int quality, int upper) {
        CHECK.due("share " + quality + " upper", broker.share(quality, true), upper);
        CHECK.due("share " + quality + " lower", broker.share(quality, false), 1);
    }

    private static void share() {
        PluckBroker broker = Check.shop("B9P0P0Q010Q110Q010Q110D001D111D102D021D133");
        share(broker, 0, 2);
        share(broker, 1, 3);
        share(broker, 2, 0);
        share(broker, 3, 0);
        broker.pledge(0);
        share(broker, 0, 0);
        share(broker, 1, 3);
        broker.day();
        // one of its three is done already: that one is done, whoever comes
        share(broker, 1, 2);
        broker.give(0, 9);
        CHECK.due("redeemed", broker.redeem(0), 8);
        // its first deed failed while it was pledged
        share(broker, 0, 1);
        for (int quality : new int[] {MIN, -1, 4, MAX}) {
            CHECK.due("share of " + quality, broker.share(quality, true), -1);
            CHECK.due("share of " + quality, broker.share(quality, false), -1);
        }
    }

    private static void nothingIsChanged() {
        PluckBroker broker = Check.shop("B3P2P0Q050Q031Q142Q123D014D137D209D322D260");
        broker.pledge(0);
        broker.day();
        broker.pledge(2);
        broker.seed(4);
        broker.keep(0);
        long[] ahead = Check.look(broker);
        broker.due(0, 20);
        broker.done(20);
        broker.coins(0, 20);
        broker.raise(0, 3, 0);
        broker.back(2);
        broker.judge(4, 1302000L);
        broker.share(1, true);
        broker.rests(0, 1, 0);
        broker.sales(1, 5, true);
        CHECK.row("asked only", Check.look(broker), ahead);
        CHECK.due("the seed", broker.seed(4), 4);
        broker.years(30);
        CHECK.row("years", Check.look(broker), ahead);
        CHECK.due("the seed, but by years", broker.seed(4) == 4 ? 1 : 0, 0);
        broker.day();
        CHECK.due("kept", broker.again(0), 1);
        ahead[10] = 0;
        CHECK.row("kept", Check.look(broker), ahead);
    }
}
