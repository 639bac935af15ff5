/**
 * "In what follows nothing is changed", "Nothing changes but THE SEED": each call that asks is made on one of two
 * objects that are alike, and answered; all that they hold is looked at then, and is alike yet. (RefusalsTest does so
 * for what is refused.)
 */
public final class QuestionsTest {
    private static final Check CHECK = new Check();
    private static final String[] SHOPS = {"B3P2P0Q050Q031Q142Q123D014D137D209D322D260", "B9P9Q010Q093Q051D090D190",
        "B1P0P0P0Q030Q120Q210"};
    /** What is written behind it: other shops, whole, with a fault at the end, and with one ahead of it. */
    private static final String[] TEXTS = {"B7P8Q093D099", "B7P8Q093D0", "B7P8P8P8Q213x"};
    private static final String[] LIVES = {"p0 d p2", "p0 p1 d9", "d d d d d d d d d d d p0 g29 d"};

    /** A shop that has been lived in; numbers of it are taken where a call wants some. */
    private final int which;

    private interface Call {
        long on(PluckBroker broker);
    }

    private QuestionsTest(int which) {
        this.which = which;
    }

    public static void main(String[] args) {
        for (int which = 0; which < SHOPS.length; which++) {
            QuestionsTest test = new QuestionsTest(which);
            test.looks();
            test.daysToCome();
            test.raised();
            test.judged();
            test.chances();
            test.years();
        }
        CHECK.end();
    }

    private PluckBroker make() {
        PluckBroker broker = Check.shop(SHOPS[which], LIVES[which]);
        broker.keep(which % 2);
        broker.ask(0, 4);
        broker.ask(3, 7);
        broker.seed(99);
        Check.write(broker, TEXTS[which]);
        return broker;
    }

    /** Answered twice alike (the same calls always give the same answers), and nothing is changed by it. */
    private void asks(String told, Call call) {
        PluckBroker broker = make();
        PluckBroker twin = make();
        long answer = call.on(broker);
        CHECK.due("promise " + told + " is answered", answer >= 0 || answer == PluckBroker.NONE ? 1 : 0, 1);
        CHECK.due("promise " + told + ", asked again", call.on(broker), answer);
        CHECK.row("promise " + told + ", nothing is changed", Check.lookBehind(broker), Check.lookBehind(twin));
    }

    private void looks() {
        asks("4: fault", b -> b.fault());
        asks("24: tickets 0", b -> b.tickets(0));
        asks("24: tickets 1", b -> b.tickets(1));
        for (int i = 0; i <= 12; i++) {
            int what = i;
            asks("6: about " + what, b -> b.about(what));
        }
        for (int i = 0; i <= 5; i++) {
            int what = i;
            asks("7: person 0, " + what, b -> b.person(0, Math.min(what, 2)));
            asks("8: quality 0, " + what, b -> b.quality(0, what));
            asks("8: quality 2, " + what, b -> b.quality(2, what));
            asks("9: deed 1, " + what, b -> b.about(2) == 0 ? 0 : b.deed(1, Math.min(what, 3)));
        }
    }

    private void daysToCome() {
        for (int days = 0; days <= 20; days++) {
            int n = days;
            asks("15: due 0, " + n, b -> b.due(0, n));
            asks("15: due 2, " + n, b -> b.due(2, n));
            asks("16: done " + n, b -> b.done(n));
            asks("17: coins 0, " + n, b -> b.coins(0, n));
        }
        for (int number = 0; number <= 2; number++) {
            int quality = number;
            asks("19: back " + quality, b -> b.quality(quality, 3) == 1 ? b.back(quality) : 0);
            asks("21: share " + quality, b -> b.share(quality, true));
            asks("21: share " + quality, b -> b.share(quality, false));
        }
    }

    private void raised() {
        for (int sum = 0; sum <= 60; sum += 3) {
            int v = sum;
            asks("18: raise 0, " + v, b -> b.raise(0, v, 0));
            asks("18: raise 0, " + v, b -> b.raise(0, v, 1));
        }
    }

    /** What is told is done ahead of what comes behind it, and all of it is as if it had not been. */
    private void judged() {
        long[] doings = {0, 100, 101, 102, 200, 201, 202, 301, 309, 319, 400, 401, 500, 509, 519, 600};
        for (long first : doings) {
            for (long second : doings) {
                asks("20: judge " + first + ", " + second, b -> b.judge(4, 1000001 * (1000 * first + second)));
            }
            asks("20: judge " + first, b -> b.judge(1, first));
        }
    }

    private void chances() {
        for (int i = 0; i <= 10; i++) {
            int x = i;
            asks("26: sales 0, " + x, b -> b.sales(0, x, false));
            asks("26: sales 1, " + x, b -> b.sales(1, x, true));
            asks("26: sales 5, " + x, b -> b.sales(5, x, true));
        }
        for (int i = 0; i <= 1; i++) {
            int what = i;
            asks("25: rests, " + what, b -> b.about(0) < 2 ? 0 : b.rests(0, 1, what));
            asks("25: rests, " + what, b -> b.about(0) < 2 ? 0 : b.rests(1, 0, what));
        }
    }

    /** But THE SEED: it is set back, and all is as it was. */
    private void years() {
        for (int times = 1; times <= 30; times++) {
            int m = times;
            asks("28: years " + m, b -> {
                long together = b.years(m);
                CHECK.due("promise 28: years " + m + " change THE SEED", b.seed(99) == 99 ? 0 : 1, 1);
                return together;
            });
        }
    }
}
