/**
 * Part 4: of several refusals that is answered which is told first, and what is refused changes nothing. Each refused
 * call is made on one of two objects that are alike; all that they hold is looked at then, and is alike yet.
 */
public final class RefusalsTest {
    private static final Check CHECK = new Check();
    private static final int MIN = Check.MIN, MAX = Check.MAX;
    private static final int UNKNOWN = -1, BAD = -2, LATE = -3, FULL = -4;

    /** Makes an object; each time one that is like the last. */
    private interface Maker {
        PluckBroker make();
    }

    private interface Call {
        long on(PluckBroker broker);
    }

    public static void main(String[] args) {
        texts();
        looks();
        acts();
        actsInAFullRow();
        daysToCome();
        judged();
        asked();
        restsAndChances();
        slots();
        whatIsToldFirst();
        CHECK.end();
    }

    private static void refused(String told, Maker maker, Call call, long want) {
        PluckBroker broker = maker.make();
        PluckBroker twin = maker.make();
        CHECK.due("promise " + told, call.on(broker), want);
        CHECK.row("promise " + told + ", nothing is changed", Check.lookBehind(broker), Check.lookBehind(twin));
    }

    // ---- what calls are made on

    /** PERSONS 0 and 1, QUALITIES 0 .. 3 (0 and 2 PLEDGED, 1 and 3 HAD), DEEDS 0 .. 4; all that can be kept is. */
    private static PluckBroker lively() {
        PluckBroker broker = Check.shop("B3P2P0Q050Q031Q142Q143D014D137D209D322D260", "p0 d p2");
        broker.keep(0);
        Check.live(broker, "d g09");
        broker.keep(1);
        Check.live(broker, "d");
        broker.ask(0, 4);
        broker.ask(3, 7);
        broker.seed(99);
        broker.write('?');
        return broker;
    }

    /** THE TEXT is full, as is the row of ASKED. */
    private static PluckBroker full() {
        PluckBroker broker = Check.shop("B9P0P0P0Q010Q010Q010Q010Q010D000D000D000D000D000", "p0");
        for (int i = 0; i < 6; i++) {
            broker.ask(0, 1);
        }
        return broker;
    }

    /** The row of ACTS is full; QUALITY 0 is PLEDGED and dear by now, THE TILL has too little for QUALITY 1. */
    private static PluckBroker fullOfActs() {
        return Check.shop("B1P0Q030Q020", "d d d d d d g01 p0 d d d d d d");
    }

    /** QUALITY 0 is SOLD, QUALITY 1 is a KEEPSAKE and PLEDGED, its PERSON has less than is DUE. */
    private static PluckBroker sold() {
        return Check.shop("B9P0Q010Q093Q051", "p0 p1 p2 d r2 d8");
    }

    /** One COIN less than is DUE. */
    private static PluckBroker poor() {
        return Check.shop("B9P0Q050D009", "p0 d");
    }

    // ---- promises 2 to 9

    private static void texts() {
        for (int letter : Check.outside(0, 255)) {
            refused("2: write " + letter, RefusalsTest::lively, b -> b.write(letter), BAD);
            refused("2: full, write " + letter, RefusalsTest::full, b -> b.write(letter), BAD);
            refused("2: new, write " + letter, PluckBroker::new, b -> b.write(letter), BAD);
        }
        for (int letter : new int[] {0, 'B', 'P', 255}) {
            refused("2: full, write " + letter, RefusalsTest::full, b -> b.write(letter), FULL);
        }
        refused("5: shop of a FAULT", RefusalsTest::lively, b -> b.shop(), LATE);
        refused("5: shop of no text", PluckBroker::new, b -> b.shop(), LATE);
    }

    private static void looks() {
        for (int bad : Check.outside(0, 12)) {
            refused("6: about " + bad, RefusalsTest::lively, b -> b.about(bad), BAD);
        }
        for (int bad : Check.outside(0, 5)) {
            refused("7: person 1, " + bad, RefusalsTest::lively, b -> b.person(1, bad), BAD);
            refused("8: quality 3, " + bad, RefusalsTest::lively, b -> b.quality(3, bad), BAD);
            refused("9: deed 4, " + bad, RefusalsTest::lively, b -> b.deed(4, bad), BAD);
        }
        for (int bad : new int[] {3, 4, 5}) {
            refused("7: person 0, " + bad, RefusalsTest::lively, b -> b.person(0, bad), BAD);
        }
        for (int bad : new int[] {4, 5}) {
            refused("9: deed 0, " + bad, RefusalsTest::lively, b -> b.deed(0, bad), BAD);
        }
        for (int what : new int[] {MIN, -1, 0, 1, 2, 3, 4, 5, 6, MAX}) {
            for (int person : Check.outside(0, 1)) {
                refused("7: person " + person, RefusalsTest::lively, b -> b.person(person, what), UNKNOWN);
            }
            for (int quality : Check.outside(0, 3)) {
                refused("8: quality " + quality, RefusalsTest::lively, b -> b.quality(quality, what), UNKNOWN);
            }
            for (int deed : Check.outside(0, 4)) {
                refused("9: deed " + deed, RefusalsTest::lively, b -> b.deed(deed, what), UNKNOWN);
            }
            refused("7: new, person", PluckBroker::new, b -> b.person(0, what), UNKNOWN);
            refused("8: new, quality", PluckBroker::new, b -> b.quality(0, what), UNKNOWN);
            refused("9: new, deed", PluckBroker::new, b -> b.deed(0, what), UNKNOWN);
        }
    }

    // ---- promises 10 to 14

    private static void acts() {
        for (int quality : Check.outside(0, 3)) {
            refused("11: pledge " + quality, RefusalsTest::lively, b -> b.pledge(quality), UNKNOWN);
            refused("12: redeem " + quality, RefusalsTest::lively, b -> b.redeem(quality), UNKNOWN);
        }
        refused("11: PLEDGED", RefusalsTest::lively, b -> b.pledge(0), LATE);
        refused("11: THE TILL has less", RefusalsTest::lively, b -> b.pledge(3), LATE);
        refused("11: SOLD", RefusalsTest::sold, b -> b.pledge(0), LATE);
        refused("12: HAD", RefusalsTest::lively, b -> b.redeem(1), LATE);
        refused("12: the PERSON has less", RefusalsTest::poor, b -> b.redeem(0), LATE);
        refused("12: SOLD", RefusalsTest::sold, b -> b.redeem(0), LATE);
        refused("12: a KEEPSAKE, the PERSON has less", RefusalsTest::sold, b -> b.redeem(1), LATE);
        for (int person : Check.outside(0, 1)) {
            for (int n : new int[] {MIN, 0, 1, 9, 10, MAX}) {
                refused("13: give " + person + ", " + n, RefusalsTest::lively, b -> b.give(person, n), UNKNOWN);
            }
        }
        for (int n : Check.outside(1, 9)) {
            refused("13: give 0, " + n, RefusalsTest::lively, b -> b.give(0, n), BAD);
            refused("13: give 1, " + n, RefusalsTest::lively, b -> b.give(1, n), BAD);
        }
        refused("14: new, undo", PluckBroker::new, b -> b.undo(), LATE);
        refused("14: no ACTS, undo", RefusalsTest::full, b -> b.undo() == 0 ? b.undo() : 0, LATE, b -> b.undo());
        refused("14: gone on, undo", RefusalsTest::lively, b -> b.again(0) == 1 ? b.undo() : 0, LATE, b -> b.again(0));
    }

    /** The same, where the twin does a part of it: what is refused behind that part changes nothing. */
    private static void refused(String told, Maker maker, Call call, long want, Call part) {
        PluckBroker broker = maker.make();
        PluckBroker twin = maker.make();
        CHECK.due("promise " + told, call.on(broker), want);
        part.on(twin);
        CHECK.row("promise " + told + ", nothing is changed", Check.lookBehind(broker), Check.lookBehind(twin));
    }

    /** What is refused makes the row of ACTS forget nothing. */
    private static void actsInAFullRow() {
        refused("11: PLEDGED, the row is full", RefusalsTest::fullOfActs, b -> b.pledge(0), LATE);
        refused("11: THE TILL has less, the row is full", RefusalsTest::fullOfActs, b -> b.pledge(1), LATE);
        refused("11: UNKNOWN, the row is full", RefusalsTest::fullOfActs, b -> b.pledge(2), UNKNOWN);
        refused("12: HAD, the row is full", RefusalsTest::fullOfActs, b -> b.redeem(1), LATE);
        refused("12: less, the row is full", RefusalsTest::fullOfActs, b -> b.redeem(0), LATE);
        refused("12: UNKNOWN, the row is full", RefusalsTest::fullOfActs, b -> b.redeem(-1), UNKNOWN);
        refused("13: BAD, the row is full", RefusalsTest::fullOfActs, b -> b.give(0, 0), BAD);
        refused("13: BAD, the row is full", RefusalsTest::fullOfActs, b -> b.give(0, 10), BAD);
        refused("13: UNKNOWN, the row is full", RefusalsTest::fullOfActs, b -> b.give(1, 1), UNKNOWN);
        refused("30: LATE, the row is full", RefusalsTest::fullOfActs, b -> b.again(0), LATE);
        refused("29: UNKNOWN, the row is full", RefusalsTest::fullOfActs, b -> b.keep(2), UNKNOWN);
        refused("30: UNKNOWN, the row is full", RefusalsTest::fullOfActs, b -> b.again(2), UNKNOWN);
    }

    // ---- promises 15 to 21

    private static void daysToCome() {
        for (int n : Check.outside(0, 20)) {
            refused("15: due 0, " + n, RefusalsTest::lively, b -> b.due(0, n), BAD);
            refused("16: done " + n, RefusalsTest::lively, b -> b.done(n), BAD);
            refused("17: coins 1, " + n, RefusalsTest::lively, b -> b.coins(1, n), BAD);
            refused("15: due 4, " + n, RefusalsTest::lively, b -> b.due(4, n), UNKNOWN);
            refused("17: coins 2, " + n, RefusalsTest::lively, b -> b.coins(2, n), UNKNOWN);
        }
        for (int quality : Check.outside(0, 3)) {
            refused("15: due " + quality, RefusalsTest::lively, b -> b.due(quality, 20), UNKNOWN);
            refused("19: back " + quality, RefusalsTest::lively, b -> b.back(quality), UNKNOWN);
            refused("21: share " + quality, RefusalsTest::lively, b -> b.share(quality, true), UNKNOWN);
            refused("21: share " + quality, RefusalsTest::lively, b -> b.share(quality, false), UNKNOWN);
        }
        refused("19: HAD", RefusalsTest::lively, b -> b.back(1), LATE);
        refused("19: SOLD", RefusalsTest::sold, b -> b.back(0), LATE);
        for (int person : Check.outside(0, 1)) {
            refused("17: coins " + person, RefusalsTest::lively, b -> b.coins(person, 0), UNKNOWN);
            refused("18: raise " + person, RefusalsTest::lively, b -> b.raise(person, 0, 0), UNKNOWN);
            refused("18: raise " + person + ", BAD", RefusalsTest::lively, b -> b.raise(person, 61, 2), UNKNOWN);
        }
        for (int v : Check.outside(0, 60)) {
            refused("18: raise v " + v, RefusalsTest::lively, b -> b.raise(0, v, 0), BAD);
        }
        for (int what : Check.outside(0, 1)) {
            refused("18: raise what " + what, RefusalsTest::lively, b -> b.raise(0, 0, what), BAD);
        }
    }

    private static void judged() {
        for (int n : Check.outside(1, 4)) {
            refused("20: judge " + n, RefusalsTest::lively, b -> b.judge(n, 0), BAD);
        }
        long limit = 1;
        for (int many = 1; many <= 4; many++) {
            int n = many;
            limit *= 1000;
            for (long row : new long[] {Long.MIN_VALUE, -limit, -1, limit, Long.MAX_VALUE}) {
                refused("20: judge " + n + ", " + row, RefusalsTest::lively, b -> b.judge(n, row), BAD);
            }
        }
        // neither what can not be nor what can is done
        refused("20: what can not be", RefusalsTest::lively, b -> b.judge(4, 319101000204L), 3);
        refused("20: what can be", RefusalsTest::lively, b -> b.judge(4, 319101000202L), -9);
    }

    // ---- promises 22 to 28

    private static void asked() {
        for (int t : Check.outside(0, 8)) {
            refused("22: ask t " + t, RefusalsTest::lively, b -> b.ask(t, 5), BAD);
            refused("22: six, ask t " + t, RefusalsTest::full, b -> b.ask(t, 5), BAD);
        }
        for (int v : Check.outside(0, 30)) {
            refused("22: ask v " + v, RefusalsTest::lively, b -> b.ask(5, v), BAD);
            refused("22: six, ask v " + v, RefusalsTest::full, b -> b.ask(5, v), BAD);
        }
        refused("22: six", RefusalsTest::full, b -> b.ask(0, 2), FULL);
        refused("22: six, the same again", RefusalsTest::full, b -> b.ask(0, 1), FULL);
        for (int what : Check.outside(0, 1)) {
            refused("24: tickets " + what, RefusalsTest::lively, b -> b.tickets(what), BAD);
        }
    }

    private static void restsAndChances() {
        for (int bad : Check.outside(0, 1)) {
            refused("25: rests " + bad + ", 0", RefusalsTest::lively, b -> b.rests(bad, 0, 0), UNKNOWN);
            refused("25: rests 1, " + bad, RefusalsTest::lively, b -> b.rests(1, bad, 1), UNKNOWN);
            refused("25: rests " + bad + ", twice", RefusalsTest::lively, b -> b.rests(bad, bad, 2), UNKNOWN);
            refused("25: rests what " + bad, RefusalsTest::lively, b -> b.rests(0, 1, bad), BAD);
        }
        refused("25: both are one", RefusalsTest::lively, b -> b.rests(1, 1, 0), BAD);
        for (int m : Check.outside(0, 5)) {
            refused("26: sales m " + m, RefusalsTest::lively, b -> b.sales(m, 5, true), BAD);
        }
        for (int x : Check.outside(0, 10)) {
            refused("26: sales x " + x, RefusalsTest::lively, b -> b.sales(1, x, false), BAD);
        }
        for (int m : Check.outside(1, 30)) {
            refused("28: years " + m, RefusalsTest::lively, b -> b.years(m), BAD);
            refused("28: new, years " + m, PluckBroker::new, b -> b.years(m), BAD);
        }
    }

    // ---- promises 29 and 30

    private static void slots() {
        for (int slot : Check.outside(0, 1)) {
            refused("29: keep " + slot, RefusalsTest::lively, b -> b.keep(slot), UNKNOWN);
            refused("30: again " + slot, RefusalsTest::lively, b -> b.again(slot), UNKNOWN);
        }
        for (int slot : new int[] {0, 1}) {
            refused("30: none kept, again " + slot, RefusalsTest::full, b -> b.again(slot), LATE);
            refused("30: new, again " + slot, PluckBroker::new, b -> b.again(slot), LATE);
        }
    }

    // ---- "Of several what is told first"

    private static void first(String told, long got, long want) {
        CHECK.due("promise " + told + " goes ahead", got, want);
    }

    private static void whatIsToldFirst() {
        first("2: BAD of FULL", full().write(256), BAD);
        first("7: UNKNOWN of BAD", lively().person(2, 3), UNKNOWN);
        first("8: UNKNOWN of BAD", lively().quality(4, 6), UNKNOWN);
        first("9: UNKNOWN of BAD", lively().deed(5, 4), UNKNOWN);
        first("11: UNKNOWN of LATE", fullOfActs().pledge(2), UNKNOWN);
        first("12: UNKNOWN of LATE", fullOfActs().redeem(2), UNKNOWN);
        first("13: UNKNOWN of BAD", lively().give(2, 10), UNKNOWN);
        first("15: UNKNOWN of BAD", lively().due(4, 21), UNKNOWN);
        first("17: UNKNOWN of BAD", lively().coins(2, 21), UNKNOWN);
        first("18: UNKNOWN of BAD v", lively().raise(2, 61, 0), UNKNOWN);
        first("18: UNKNOWN of BAD what", lively().raise(2, 0, 2), UNKNOWN);
        first("18: BAD what of NONE", lively().raise(0, 60, 2), BAD);
        first("19: UNKNOWN of LATE", lively().back(4), UNKNOWN);
        first("20: BAD row of what can not be", lively().judge(1, 1999L), BAD);
        first("22: BAD of FULL", full().ask(9, 1), BAD);
        first("25: UNKNOWN of both are one", lively().rests(2, 2, 0), UNKNOWN);
        first("25: UNKNOWN of BAD what", lively().rests(0, 2, 2), UNKNOWN);
        first("25: the first UNKNOWN of BAD what", lively().rests(-1, 0, 2), UNKNOWN);
        first("29: UNKNOWN", new PluckBroker().keep(2), UNKNOWN);
        first("30: UNKNOWN of LATE", new PluckBroker().again(2), UNKNOWN);
    }
}
