/** Counts the answers that are not as due, and prints them. */
final class Check {
    private int wrong;

    void due(String call, long got, long want) {
        if (got != want) {
            wrong++;
            System.out.println(call + " answered " + got + ", due is " + want);
        }
    }

    /** The answers of a call for what = 0, 1, .. */
    void row(String call, long[] got, long... want) {
        due(call + ": how many answers", got.length, want.length);
        for (int i = 0; i < Math.min(got.length, want.length); i++) {
            due(call + " [" + i + "]", got[i], want[i]);
        }
    }

    void end() {
        System.out.println(wrong == 0 ? "all answers are as due" : wrong + " answers are not as due");
        if (wrong != 0) {
            System.exit(1);
        }
    }

    static void write(PluckBroker broker, String text) {
        broker.wipe();
        for (int i = 0; i < text.length(); i++) {
            broker.write(text.charAt(i));
        }
    }

    /** A new object whose text and shop are as told. */
    static PluckBroker shop(String text) {
        PluckBroker broker = new PluckBroker();
        write(broker, text);
        int told = broker.shop();
        if (told < 0) {
            throw new IllegalStateException("no shop: " + text);
        }
        return broker;
    }

    /** All that can be seen of an object without a change; two objects of one row stand alike. */
    static long[] look(PluckBroker broker) {
        long[] row = new long[160];
        int at = 0;
        for (int what = 0; what <= 12; what++) {
            row[at++] = broker.about(what);
        }
        for (int i = 0; i < 3; i++) {
            for (int what = 0; what <= 2; what++) {
                row[at++] = broker.person(i, what);
            }
        }
        for (int i = 0; i < 5; i++) {
            for (int what = 0; what <= 5; what++) {
                row[at++] = broker.quality(i, what);
            }
            for (int what = 0; what <= 3; what++) {
                row[at++] = broker.deed(i, what);
            }
        }
        row[at++] = broker.tickets(0);
        row[at++] = broker.tickets(1);
        row[at++] = broker.fault();
        return java.util.Arrays.copyOf(row, at);
    }
}
