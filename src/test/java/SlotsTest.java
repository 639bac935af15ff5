/** Promises 29 and 30: kept, and gone on from. */
public final class SlotsTest {
    private static final Check CHECK = new Check();

    public static void main(String[] args) {
        refusals();
        keptAndAgain();
        keepingChangesNothing();
        overwritten();
        whatIsNotKept();
        CHECK.end();
    }

    private static void refusals() {
        PluckBroker broker = new PluckBroker();
        for (int slot : new int[] {Integer.MIN_VALUE, -1, 2, 31, 32, 33, Integer.MAX_VALUE}) {
            CHECK.due("keep " + slot, broker.keep(slot), -1);
            CHECK.due("again " + slot, broker.again(slot), -1);
        }
        CHECK.due("again 0", broker.again(0), -3);
        CHECK.due("again 1", broker.again(1), -3);
        CHECK.due("keep 1 of nobody", broker.keep(1), 0);
        CHECK.due("again 0, not kept", broker.again(0), -3);
        CHECK.due("again 1 of nobody", broker.again(1), 0);
        broker.day();
        CHECK.due("again refused", broker.again(0), -3);
        CHECK.due("again refused: acts stay", broker.about(10), 1);
        CHECK.due("again refused: the day stays", broker.about(3), 1);
    }

    private static void keptAndAgain() {
        PluckBroker broker = Check.shop("B3P2P0Q050Q031Q142Q123D014D137D209D322D260");
        broker.pledge(0);
        broker.day();
        broker.pledge(2);
        broker.day();
        CHECK.due("keep 0", broker.keep(0), 2);
        long[] first = Check.look(broker);
        broker.give(1, 9);
        broker.redeem(2);
        broker.day();
        CHECK.due("keep 1", broker.keep(1), 3);
        long[] second = Check.look(broker);
        for (int i = 0; i < 10; i++) {
            broker.day();
        }
        first[10] = 0;
        second[10] = 0;
        CHECK.due("again 0", broker.again(0), 2);
        CHECK.row("again 0: as it was", Check.look(broker), first);
        CHECK.due("again 0: no acts", broker.undo(), -3);
        CHECK.due("again 1", broker.again(1), 3);
        CHECK.row("again 1: as it was", Check.look(broker), second);
        broker.day();
        CHECK.due("again 0, twice", broker.again(0), 2);
        CHECK.row("again 0, twice: as it was", Check.look(broker), first);
        CHECK.due("gone on", broker.day(), 1);
        CHECK.due("gone on: undo", broker.undo(), 0);
        CHECK.row("gone on: undone", Check.look(broker), first);
    }

    private static void keepingChangesNothing() {
        PluckBroker broker = Check.shop("B3P2Q030");
        broker.pledge(0);
        long[] ahead = Check.look(broker);
        broker.keep(0);
        broker.keep(7);
        CHECK.row("keep", Check.look(broker), ahead);
        CHECK.due("keep: acts stay", broker.undo(), 0);
    }

    private static void overwritten() {
        PluckBroker broker = Check.shop("B3P2Q030");
        broker.keep(0);
        broker.day();
        broker.pledge(0);
        CHECK.due("keep over", broker.keep(0), 1);
        broker.day();
        broker.redeem(0);
        CHECK.due("again", broker.again(0), 1);
        CHECK.due("again: pledged", broker.quality(0, 3), 1);
        CHECK.due("again: since", broker.quality(0, 4), 1);
        CHECK.due("again: the till", broker.about(4), 9);
    }

    private static void whatIsNotKept() {
        PluckBroker broker = Check.shop("B3P2Q030");
        broker.keep(1);
        broker.ask(0, 3);
        broker.seed(11);
        broker.write('?');
        broker.again(1);
        CHECK.due("asked stays", broker.about(11), 1);
        CHECK.due("text stays", broker.about(12), 9);
        CHECK.due("the seed stays", broker.seed(0), 11);
    }
}
