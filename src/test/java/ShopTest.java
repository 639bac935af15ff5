/** Promises 1 to 9: a new object, the text, its fault, the shop, and what it tells of itself. */
public final class ShopTest {
    private static final Check CHECK = new Check();
    private static final int MIN = Integer.MIN_VALUE, MAX = Integer.MAX_VALUE;

    public static void main(String[] args) {
        newObject();
        writing();
        faults();
        faultsInEveryPlace();
        making();
        remaking();
        telling();
        CHECK.end();
    }

    private static void newObject() {
        PluckBroker broker = new PluckBroker();
        CHECK.due("new: UNKNOWN", PluckBroker.UNKNOWN, -1);
        CHECK.due("new: BAD", PluckBroker.BAD, -2);
        CHECK.due("new: LATE", PluckBroker.LATE, -3);
        CHECK.due("new: FULL", PluckBroker.FULL, -4);
        CHECK.due("new: NONE", PluckBroker.NONE, -9);
        for (int what = 0; what <= 12; what++) {
            CHECK.due("new: about " + what, broker.about(what), 0);
        }
        CHECK.due("new: person", broker.person(0, 0), -1);
        CHECK.due("new: quality", broker.quality(0, 0), -1);
        CHECK.due("new: deed", broker.deed(0, 0), -1);
        CHECK.due("new: undo", broker.undo(), -3);
        CHECK.due("new: again", broker.again(0), -3);
        CHECK.due("new: tickets", broker.tickets(0), 36);
        CHECK.due("new: seed", broker.seed(1), 0);
        PluckBroker second = new PluckBroker();
        CHECK.due("new: of its own", second.seed(1), 0);
    }

    private static void writing() {
        PluckBroker broker = new PluckBroker();
        CHECK.due("write below", broker.write(-1), -2);
        CHECK.due("write above", broker.write(256), -2);
        CHECK.due("write least int", broker.write(MIN), -2);
        CHECK.due("write most int", broker.write(MAX), -2);
        CHECK.due("write: refused, nothing came", broker.about(12), 0);
        CHECK.due("write 0", broker.write(0), 1);
        CHECK.due("write 255", broker.write(255), 2);
        for (int i = 3; i <= 48; i++) {
            CHECK.due("write " + i, broker.write('B'), i);
        }
        CHECK.due("write 49", broker.write('B'), -4);
        CHECK.due("write 49, bad", broker.write(256), -2);
        CHECK.due("write: full", broker.about(12), 48);
        CHECK.due("wipe full", broker.wipe(), 48);
        CHECK.due("wipe empty", broker.wipe(), 0);
        CHECK.due("wipe: about", broker.about(12), 0);
        CHECK.due("write again", broker.write('B'), 1);
        CHECK.due("the old text is gone", broker.fault(), 1);
    }

    private static void fault(String text, int want) {
        PluckBroker broker = new PluckBroker();
        Check.write(broker, text);
        CHECK.due("fault of " + text, broker.fault(), want);
        CHECK.due("fault again of " + text, broker.fault(), want);
        CHECK.due("shop of " + text, broker.shop() < 0 ? -3 : 0, want == -9 ? 0 : -3);
    }

    private static void faults() {
        String[] whole = {"B0", "B9", "B0P0", "B0P9P9P9", "B0P0Q010", "B0P0Q093", "B0P0Q010D000", "B0P0Q010D099",
            "B0P0Q010P0Q122D109", "B0P0P0P0Q010Q010Q010Q010Q010D000D100D200D300D400"};
        for (String text : whole) {
            fault(text, -9);
        }
        fault("", 0);
        fault("B", 1);
        fault("B0P", 3);
        fault("B0P0Q", 5);
        fault("B0P0Q0", 6);
        fault("B0P0Q01", 7);
        fault("B0P0Q010D", 9);
        fault("B0P0Q010D0", 10);
        fault("B0P0Q010D00", 11);
        fault("b0", 0);
        fault("P0", 0);
        fault("0", 0);
        fault("B/", 1);
        fault("B:", 1);
        fault("B00", 2);
        fault("BB", 1);
        fault("B0p0", 2);
        fault("B0P/", 3);
        fault("B0P:", 3);
        fault("B0P00", 4);
        fault("B0Q010", 2);
        fault("B0D000", 2);
        fault("B0P0D000", 4);
        fault("B0P0Q110", 5);
        fault("B0P0P0Q110", -9);
        fault("B0P0P0Q210", 7);
        fault("B0P0Q000", 6);
        fault("B0P0Q0:0", 6);
        fault("B0P0Q014", 7);
        fault("B0P0Q01/", 7);
        fault("B0P0Q010D100", 9);
        fault("B0P0Q010Q010D100", -9);
        fault("B0P0Q010D0:0", 10);
        fault("B0P0Q010D0/0", 10);
        fault("B0P0Q010D00:", 11);
        fault("B0P0Q010D00/", 11);
        fault("B0P0P0P0P", 8);
        fault("B0P0Q010Q010Q010Q010Q010Q", 24);
        fault("B0P0Q010D000D000D000D000D000D", 28);
        fault("B0P0Q010Q010Q010Q010Q010D000D000D000D000D000P0P", 47);
        fault("B0P0P0Q010Q010Q010Q010Q010D000D000D000D000D000P0", -9);
        fault("B0P0Q010\u0000", 8);
        fault("B0P0Q010\u00ff", 8);
        fault("B0P0Q010 ", 8);
        fault("xB0", 0);
    }

    /** A wrong byte in any place of a good text is the fault; a good text cut short has it at its end, if at all. */
    private static void faultsInEveryPlace() {
        String good = "B3P2P0Q050Q031Q142Q123D014D137D209D322D260";
        for (int cut = 0; cut <= good.length(); cut++) {
            boolean whole = cut == 2 || cut == 4 || cut >= 6 && (cut - 6) % 4 == 0;
            fault(good.substring(0, cut), whole ? -9 : cut);
            fault(good.substring(0, cut) + "#" + good.substring(cut), cut);
        }
    }

    private static void making() {
        PluckBroker broker = new PluckBroker();
        CHECK.due("shop of nothing", broker.shop(), -3);
        Check.write(broker, "B0P5P7P9Q010Q111Q212Q023Q134D000D100D200D300D400");
        CHECK.due("shop with a fault", broker.shop(), -3);
        CHECK.due("shop with a fault: nobody", broker.about(0), 0);
        Check.write(broker, "B9P5P7P9Q010Q111Q212Q023Q133D001D112D223D334D445");
        CHECK.due("shop", broker.shop(), 355);
        CHECK.due("the text stays", broker.about(12), 48);
        CHECK.due("the text stays as it was", broker.fault(), -9);
        CHECK.row("about", abouts(broker), 3, 5, 5, 0, 36, 31, 0, 0, 0, 0, 0, 0, 48);
        Check.write(broker, "B4");
        CHECK.due("shop of nobody", broker.shop(), 0);
        CHECK.row("about nobody", abouts(broker), 0, 0, 0, 0, 16, 0, 0, 0, 0, 0, 0, 0, 2);
        CHECK.due("nobody: person", broker.person(0, 0), -1);
        CHECK.due("nobody: quality", broker.quality(0, 0), -1);
        CHECK.due("nobody: deed", broker.deed(0, 0), -1);
    }

    /** No acts, nothing kept; what was asked and the seed stay; a refused one changes nothing. */
    private static void remaking() {
        PluckBroker broker = Check.shop("B3P2Q050D014D113".replace("D113", "D033"));
        broker.pledge(0);
        broker.day();
        broker.day();
        broker.keep(0);
        broker.keep(1);
        broker.ask(0, 4);
        broker.seed(77);
        broker.write('?');
        long[] ahead = Check.look(broker);
        CHECK.due("shop refused", broker.shop(), -3);
        CHECK.row("shop refused: as it was", Check.look(broker), ahead);
        CHECK.due("shop refused: kept stays", broker.again(0), 2);
        CHECK.due("no acts behind again", broker.about(10), 0);
        broker.day();
        Check.write(broker, "B3P2Q050D014D033");
        CHECK.due("text written, the day stays", broker.about(3), 3);
        CHECK.due("shop anew", broker.shop(), 112);
        CHECK.row("shop anew: about", abouts(broker), 1, 1, 2, 0, 12, 1, 0, 0, 0, 0, 0, 1, 16);
        CHECK.due("shop anew: purse", broker.person(0, 0), 2);
        CHECK.due("shop anew: open", broker.deed(0, 3), 0);
        CHECK.due("shop anew: undo", broker.undo(), -3);
        CHECK.due("shop anew: kept 0", broker.again(0), -3);
        CHECK.due("shop anew: kept 1", broker.again(1), -3);
        CHECK.due("shop anew: asked", broker.tickets(0), 4);
        CHECK.due("shop anew: seed", broker.seed(0), 77);
    }

    private static long[] abouts(PluckBroker broker) {
        long[] row = new long[13];
        for (int what = 0; what < row.length; what++) {
            row[what] = broker.about(what);
        }
        return row;
    }

    private static void telling() {
        PluckBroker broker = Check.shop("B3P2P0Q050Q031Q142Q123D014D137D209D322D260");
        CHECK.row("about", abouts(broker), 2, 4, 5, 0, 12, 15, 0, 0, 0, 0, 0, 0, 42);
        CHECK.due("day", broker.day(), 1);
        CHECK.due("pledge", broker.pledge(0), 7);
        CHECK.due("pledge", broker.pledge(3), 5);
        CHECK.due("day", broker.day(), 0);
        CHECK.row("about later", abouts(broker), 2, 4, 5, 2, 5, 6, 9, 0, 4, 1, 4, 0, 42);
        for (int i = 0; i < 9; i++) {
            broker.day();
        }
        CHECK.row("about in the end", abouts(broker), 2, 4, 5, 11, 5, 6, 8, 1, 22, 9, 13, 0, 42);
        CHECK.row("person 0", row(broker, 'p', 0), 14, 3, 3);
        CHECK.row("person 1", row(broker, 'p', 1), 11, 12, 28);
        CHECK.row("quality 0", row(broker, 'q', 0), 0, 5, 0, 2, -9, 0);
        CHECK.row("quality 1", row(broker, 'q', 1), 0, 3, 1, 0, -9, 0);
        CHECK.row("quality 2", row(broker, 'q', 2), 1, 4, 2, 0, -9, 0);
        CHECK.row("quality 3", row(broker, 'q', 3), 1, 2, 3, 1, 1, 2);
        CHECK.row("deed 0", row(broker, 'd', 0), 0, 1, 4, 2);
        CHECK.row("deed 1", row(broker, 'd', 1), 1, 3, 7, 1);
        CHECK.row("deed 2", row(broker, 'd', 2), 2, 0, 9, 1);
        CHECK.row("deed 3", row(broker, 'd', 3), 3, 2, 2, 2);
        CHECK.row("deed 4", row(broker, 'd', 4), 2, 6, 0, 1);
        CHECK.due("what comes is open", Check.shop("B0P0Q010D050").deed(0, 3), 0);
        refusals(broker);
    }

    private static long[] row(PluckBroker broker, char of, int number) {
        int whats = of == 'p' ? 3 : of == 'q' ? 6 : 4;
        long[] row = new long[whats];
        for (int what = 0; what < whats; what++) {
            row[what] = of == 'p' ? broker.person(number, what)
                : of == 'q' ? broker.quality(number, what) : broker.deed(number, what);
        }
        return row;
    }

    private static void refusals(PluckBroker broker) {
        for (int what : new int[] {MIN, -1, 13, MAX}) {
            CHECK.due("about " + what, broker.about(what), -2);
        }
        for (int what : new int[] {MIN, -1, 6, MAX}) {
            CHECK.due("person 0 " + what, broker.person(0, what), -2);
            CHECK.due("quality 0 " + what, broker.quality(0, what), -2);
            CHECK.due("deed 0 " + what, broker.deed(0, what), -2);
        }
        CHECK.due("person 0 3", broker.person(0, 3), -2);
        CHECK.due("deed 0 4", broker.deed(0, 4), -2);
        for (int number : new int[] {MIN, -1, 5, MAX}) {
            for (int what = -1; what <= 6; what++) {
                CHECK.due("person " + number, broker.person(number, what), -1);
                CHECK.due("quality " + number, broker.quality(number, what), -1);
                CHECK.due("deed " + number, broker.deed(number, what), -1);
            }
        }
        CHECK.due("person 2", broker.person(2, 0), -1);
        CHECK.due("quality 4", broker.quality(4, 0), -1);
    }
}
