import java.util.ArrayList;
import java.util.List;
import java.util.Random;

/** "THINGS, none or more, numbered as they are told, each kind for itself": things of all kinds in mixed order. */
public final class TellingTest {
    private static final Check CHECK = new Check();
    private static final int MIXES = 400;

    public static void main(String[] args) {
        told();
        mixed();
        CHECK.end();
    }

    private static void due(String promise, long got, long want) {
        CHECK.due("promise " + promise, got, want);
    }

    /** A quality and a deed between the persons, a deed between the qualities: none of them takes another's number. */
    private static void told() {
        String text = "B2P1Q013D007P2D010Q121Q032P3D135Q282D392";
        due("5: " + text, Check.shop(text).shop(), 344);
        long[][] persons = {{1, 5, 3}, {2, 2, 4}, {3, 8, 8}};
        long[][] qualities = {{0, 1, 3, 0, -9, 0}, {1, 2, 1, 0, -9, 0}, {0, 3, 2, 0, -9, 0}, {2, 8, 2, 0, -9, 0}};
        long[][] deeds = {{0, 0, 7, 0}, {0, 1, 0, 0}, {1, 3, 5, 0}, {3, 9, 2, 0}};
        told("7: ", text, persons, 'p');
        told("8: ", text, qualities, 'q');
        told("9: ", text, deeds, 'd');
        PluckBroker broker = Check.shop(text);
        due("10: the DEED told first", broker.day(), 1);
        due("10: its COINS", broker.person(0, 0), 8);
        due("11: the QUALITY told last", broker.pledge(3), 0);
        due("16: the DEEDS", broker.done(20), 7);
        due("17: COINS of the PERSON told last", broker.coins(2, 20), 11);
    }

    private static void told(String promise, String text, long[][] want, char of) {
        PluckBroker broker = Check.shop(text);
        for (int number = 0; number < want.length; number++) {
            for (int what = 0; what < want[number].length; what++) {
                long got = of == 'p' ? broker.person(number, what)
                    : of == 'q' ? broker.quality(number, what) : broker.deed(number, what);
                due(promise + of + " " + number + ", " + what + " of " + text, got, want[number][what]);
            }
        }
    }

    /** The same things, those of one kind in one order, are the same shop, however the kinds are mixed. */
    private static void mixed() {
        for (int mix = 0; mix < MIXES; mix++) {
            Random random = new Random(mix);
            List<String> persons = new ArrayList<>();
            List<String> qualities = new ArrayList<>();
            List<String> deeds = new ArrayList<>();
            String text = "B" + random.nextInt(10) + things(random, persons, qualities, deeds);
            String sorted = text.substring(0, 2) + String.join("", persons) + String.join("", qualities)
                + String.join("", deeds);
            due("5: the same: " + text, Check.shop(text).shop(), Check.shop(sorted).shop());
            CHECK.row("promises 6 to 9: " + text, seen(text), seen(sorted));
        }
    }

    private static String things(Random random, List<String> persons, List<String> qualities, List<String> deeds) {
        StringBuilder told = new StringBuilder();
        for (int i = 0; i < 13; i++) {
            int kind = random.nextInt(3);
            if (kind == 0 && persons.size() < 3) {
                persons.add("P" + random.nextInt(10));
                told.append(persons.get(persons.size() - 1));
            } else if (kind == 1 && qualities.size() < 5 && !persons.isEmpty()) {
                qualities.add("Q" + random.nextInt(persons.size()) + (1 + random.nextInt(9)) + random.nextInt(4));
                told.append(qualities.get(qualities.size() - 1));
            } else if (kind == 2 && deeds.size() < 5 && !qualities.isEmpty()) {
                deeds.add("D" + random.nextInt(qualities.size()) + random.nextInt(10) + random.nextInt(10));
                told.append(deeds.get(deeds.size() - 1));
            }
        }
        return told.toString();
    }

    /** All that is told of a shop when it is new, and when it has been lived in. */
    private static long[] seen(String text) {
        List<Long> row = new ArrayList<>();
        PluckBroker broker = Check.shop(text);
        for (int day = 0; day <= 10; day += 5) {
            for (long answer : Check.look(broker)) {
                row.add(answer);
            }
            for (int person = 0; person < 3; person++) {
                row.add((long) broker.coins(person, 20));
                row.add((long) broker.raise(person, 9, 0));
            }
            row.add((long) broker.pledge(day % 4));
            Check.live(broker, "d5");
        }
        return row.stream().mapToLong(Long::longValue).toArray();
    }
}
