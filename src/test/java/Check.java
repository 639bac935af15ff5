import java.util.ArrayList;
import java.util.Arrays;
import java.util.List;

/** Counts the answers that are not as due, and prints them. */
final class Check {
    /** An object is used for so many calls at most. */
    static final int CALLS_MOST = 512;
    static final int MIN = Integer.MIN_VALUE, MAX = Integer.MAX_VALUE;

    private int wrong;

    void due(String call, long got, long want) {
        if (got != want) {
            wrong++;
            System.out.println(call + " answered " + got + ", due is " + want);
        }
    }

    /** The answers of a call for what = 0, 1, .. */
    void row(String call, long[] got, long... want) {
        due(call + ": how many answers", got.length, want.length);
        for (int i = 0; i < Math.min(got.length, want.length); i++) {
            due(call + " [" + i + "]", got[i], want[i]);
        }
    }

    void end() {
        System.out.println(wrong == 0 ? "all answers are as due" : wrong + " answers are not as due");
        if (wrong != 0) {
            System.exit(1);
        }
    }

    static void write(PluckBroker broker, String text) {
        broker.wipe();
        for (int i = 0; i < text.length(); i++) {
            broker.write(text.charAt(i));
        }
    }

    /** A new object whose text and shop are as told. */
    static PluckBroker shop(String text) {
        PluckBroker broker = new PluckBroker();
        write(broker, text);
        int told = broker.shop();
        if (told < 0) {
            throw new IllegalStateException("no shop: " + text);
        }
        return broker;
    }

    static PluckBroker shop(String text, String doings) {
        return live(shop(text), doings);
    }

    /**
     * Does what is told, none of which may be refused: d A DAY, d9 nine of them, p1 QUALITY 1 PLEDGED, r1 REDEEMED,
     * g05 PERSON 0 is GIVEN 5, u the last ACT is undone.
     */
    static PluckBroker live(PluckBroker broker, String doings) {
        for (String doing : doings.isEmpty() ? new String[0] : doings.split(" ")) {
            int number = doing.length() > 1 ? Integer.parseInt(doing.substring(1)) : 1;
            int answer = 0;
            switch (doing.charAt(0)) {
                case 'd':
                    for (int i = 0; i < number; i++) {
                        answer = broker.day();
                    }
                    break;
                case 'p': answer = broker.pledge(number); break;
                case 'r': answer = broker.redeem(number); break;
                case 'g': answer = broker.give(number / 10, number % 10); break;
                default: answer = broker.undo(); break;
            }
            if (answer < 0) {
                throw new IllegalStateException(doing + " of " + doings + " is refused: " + answer);
            }
        }
        return broker;
    }

    /** Numbers that are not from least to most: next to them, far off, and those that are like them by 8 or 16 bits. */
    static int[] outside(int least, int most) {
        return new int[] {MIN, least - 65536, least - 256, least - 1, most + 1, least + 256, least + 65536, MAX};
    }

    /** How a shop stands, by what can change in it alone. */
    static void standing(PluckBroker broker, List<Long> row) {
        for (int what = 3; what <= 12; what++) {
            row.add((long) broker.about(what));
        }
        int persons = broker.about(0);
        for (int i = 0; i < persons; i++) {
            row.add((long) broker.person(i, 0));
        }
        int qualities = broker.about(1);
        for (int i = 0; i < qualities; i++) {
            row.add((long) broker.quality(i, 4));
        }
        int deeds = broker.about(2);
        for (int i = 0; i < deeds; i++) {
            row.add((long) broker.deed(i, 3));
        }
    }

    /** All that an object holds, what is behind undone ACTS and kept ones too; the object is used up by it. */
    static long[] lookBehind(PluckBroker broker) {
        List<Long> row = new ArrayList<>();
        for (long seen : look(broker)) {
            row.add(seen);
        }
        row.add(broker.seed(0));
        for (int i = 0; i < 15; i++) {
            long left = broker.undo();
            row.add(left);
            if (left >= 0) {
                standing(broker, row);
            }
        }
        for (int slot = 0; slot <= 1; slot++) {
            row.add((long) broker.again(slot));
            standing(broker, row);
        }
        return row.stream().mapToLong(Long::longValue).toArray();
    }

    /** All that can be seen of an object without a change; two objects of one row stand alike. */
    static long[] look(PluckBroker broker) {
        long[] row = new long[90];
        int at = 0;
        for (int what = 0; what <= 12; what++) {
            row[at++] = broker.about(what);
        }
        for (int i = 0; i < row[0]; i++) {
            for (int what = 0; what <= 2; what++) {
                row[at++] = broker.person(i, what);
            }
        }
        for (int i = 0; i < row[1]; i++) {
            for (int what = 0; what <= 5; what++) {
                row[at++] = broker.quality(i, what);
            }
        }
        for (int i = 0; i < row[2]; i++) {
            for (int what = 0; what <= 3; what++) {
                row[at++] = broker.deed(i, what);
            }
        }
        row[at++] = broker.tickets(0);
        row[at++] = broker.tickets(1);
        row[at++] = broker.fault();
        return Arrays.copyOf(row, at);
    }
}
