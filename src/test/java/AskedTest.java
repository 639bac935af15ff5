/** Promises 22 to 24: what was on the ticket, by what was due. */
public final class AskedTest {
    private static final Check CHECK = new Check();
    private static final int MIN = Integer.MIN_VALUE, MAX = Integer.MAX_VALUE;

    public static void main(String[] args) {
        asking();
        tickets();
        everyTicketIsFound();
        CHECK.end();
    }

    private static void asking() {
        PluckBroker broker = new PluckBroker();
        for (int bad : new int[] {MIN, -1, 9, MAX}) {
            CHECK.due("ask t " + bad, broker.ask(bad, 3), -2);
        }
        for (int bad : new int[] {MIN, -1, 31, MAX}) {
            CHECK.due("ask v " + bad, broker.ask(3, bad), -2);
        }
        CHECK.due("ask refused", broker.about(11), 0);
        CHECK.due("unask none", broker.unask(), 0);
        CHECK.due("ask least", broker.ask(0, 0), 1);
        CHECK.due("ask most", broker.ask(8, 30), 2);
        for (int i = 3; i <= 6; i++) {
            CHECK.due("ask " + i, broker.ask(0, 5), i);
        }
        CHECK.due("ask 7", broker.ask(0, 5), -4);
        CHECK.due("ask 7, bad t", broker.ask(9, 5), -2);
        CHECK.due("ask 7, bad v", broker.ask(0, 31), -2);
        CHECK.due("asked", broker.about(11), 6);
        CHECK.due("unask", broker.unask(), 6);
        CHECK.due("unask: none left", broker.about(11), 0);
        CHECK.due("unask: all fit", broker.tickets(0), 36);
        CHECK.due("ask anew", broker.ask(0, 5), 1);
        CHECK.due("ask anew: the old ones are gone", broker.tickets(0), 4);
    }

    private static void tickets(String asked, int many, int first) {
        PluckBroker broker = new PluckBroker();
        for (String one : asked.isEmpty() ? new String[0] : asked.split(" ")) {
            String[] figures = one.split(":");
            broker.ask(Integer.parseInt(figures[0]), Integer.parseInt(figures[1]));
        }
        CHECK.due("tickets " + asked, broker.tickets(0), many);
        CHECK.due("first ticket " + asked, broker.tickets(1), first);
    }

    private static void tickets() {
        PluckBroker broker = new PluckBroker();
        for (int what : new int[] {MIN, -1, 2, MAX}) {
            CHECK.due("tickets " + what, broker.tickets(what), -2);
        }
        tickets("", 36, 1);
        tickets("0:1", 4, 1);
        tickets("0:9", 4, 9);
        tickets("0:0", 0, -9);
        tickets("0:10", 0, -9);
        tickets("0:4 1:9", 0, -9);
        tickets("0:4 6:4", 2, 24);
        tickets("3:5 6:5", 1, 35);
        tickets("3:8 6:5", 1, 25);
        tickets("1:6 2:7", 2, 5);
        tickets("1:6 2:8", 1, 14);
        tickets("8:9", 3, 1);
        tickets("8:25", 1, 19);
        tickets("8:30", 0, -9);
        tickets("6:13", 2, 7);
        tickets("5:2 5:2", 1, 32);
        tickets("0:7 0:7 0:7 0:7 0:7 1:7", 1, 37);
    }

    /** Asked on three days, each of the 36 is told from all others; the day of 6 is a Saturday. */
    private static void everyTicketIsFound() {
        for (int worth = 1; worth <= 9; worth++) {
            int[][] dues = {{worth, worth + 3, worth + 6}, {worth, worth + 6, worth + 12},
                {worth, worth + 3, worth}, {worth, worth, worth}};
            for (int kind = 0; kind < 4; kind++) {
                int[] row = dues[kind];
                tickets("0:" + row[0] + " 3:" + row[1] + " 6:" + row[2], 1, 10 * kind + worth);
            }
        }
    }
}
