import java.util.Random;

/** Runs of random calls, each answer against the model's; the seeds are fixed, so that all runs are the same again. */
public final class RandomRunsTest {
    private static final int RUNS = 1500;
    private static final Check CHECK = new Check();

    private final Random random;
    private final int run;
    private final PluckBroker broker = new PluckBroker();
    private final Model model = new Model();
    private int calls;

    private RandomRunsTest(int run) {
        this.run = run;
        random = new Random(run);
    }

    public static void main(String[] args) {
        for (int run = 0; run < RUNS; run++) {
            new RandomRunsTest(run).live();
        }
        CHECK.end();
    }

    private void live() {
        writeAll(run % 3 == 0 ? shopText(3, 5, 5) : shopText(upTo(3), upTo(5), upTo(5)));
        due("shop()", broker.shop(), model.shop());
        while (calls < Check.CALLS_MOST) {
            int kind = upTo(99);
            if (kind < 50) {
                act();
            } else if (kind < 70) {
                look();
            } else if (kind < 90) {
                ahead();
            } else if (kind < 97) {
                asked();
            } else {
                text();
            }
        }
    }

    /** Behind the calls for which an object is used its answers are free. */
    private void due(String call, long got, long want) {
        calls++;
        if (calls <= Check.CALLS_MOST) {
            CHECK.due("run " + run + ", call " + calls + ": " + call, got, want);
        }
    }

    private int upTo(int most) {
        return random.nextInt(most + 1);
    }

    /** Mostly from 0 to most, sometimes next to it, rarely far off. */
    private int around(int most) {
        int kind = upTo(60);
        return kind == 0 ? random.nextInt() : kind < 4 ? most + 1 : kind < 6 ? -1 : upTo(most);
    }

    private void writeAll(String told) {
        due("wipe()", broker.wipe(), model.wipe());
        for (char letter : told.toCharArray()) {
            due("write(" + (int) letter + ")", broker.write(letter), model.write(letter));
        }
        due("fault() of " + told, broker.fault(), model.fault());
    }

    private String shopText(int persons, int qualities, int deeds) {
        StringBuilder told = new StringBuilder("B" + upTo(9));
        for (int i = 0; i < persons; i++) {
            told.append('P').append(upTo(9));
        }
        for (int i = 0; i < qualities && persons > 0; i++) {
            told.append('Q').append(upTo(persons - 1)).append(1 + upTo(8)).append(upTo(3));
        }
        for (int i = 0; i < deeds && qualities > 0 && persons > 0; i++) {
            told.append('D').append(upTo(qualities - 1)).append(upTo(9)).append(upTo(9));
        }
        return told.toString();
    }

    private void text() {
        String told = shopText(upTo(4), upTo(6), upTo(6));
        int cut = upTo(3) == 0 ? upTo(told.length()) : told.length();
        StringBuilder changed = new StringBuilder(told.substring(0, cut));
        if (changed.length() > 0 && upTo(2) > 0) {
            changed.setCharAt(upTo(changed.length() - 1), "BPQD0123459/: q\u00ff".charAt(upTo(15)));
        }
        changed.setLength(Math.min(changed.length(), 48));
        writeAll(changed.toString());
        int letter = around(255);
        due("write(" + letter + ")", broker.write(letter), model.write(letter));
        due("fault()", broker.fault(), model.fault());
        if (upTo(3) == 0) {
            due("shop()", broker.shop(), model.shop());
        }
    }

    private void act() {
        int a = around(4);
        int n = around(9);
        switch (upTo(11)) {
            case 0: case 1: case 2:
                due("pledge(" + a + ")", broker.pledge(a), model.pledge(a));
                break;
            case 3: case 4:
                due("redeem(" + a + ")", broker.redeem(a), model.redeem(a));
                break;
            case 5:
                due("give(" + a + ", " + n + ")", broker.give(a, n), model.give(a, n));
                break;
            case 6: case 7:
                due("undo()", broker.undo(), model.undo());
                break;
            case 8:
                if (upTo(3) == 0) {
                    int slot = around(1);
                    due("keep(" + slot + ")", broker.keep(slot), model.keep(slot));
                } else if (upTo(2) == 0) {
                    int slot = around(1);
                    due("again(" + slot + ")", broker.again(slot), model.again(slot));
                }
                break;
            default:
                due("day()", broker.day(), model.day());
                break;
        }
    }

    private void look() {
        int a = around(4);
        int what = around(6);
        switch (upTo(3)) {
            case 0:
                what = around(12);
                due("about(" + what + ")", broker.about(what), model.about(what));
                break;
            case 1:
                due("person(" + a + ", " + what + ")", broker.person(a, what), model.person(a, what));
                break;
            case 2:
                due("quality(" + a + ", " + what + ")", broker.quality(a, what), model.quality(a, what));
                break;
            default:
                due("deed(" + a + ", " + what + ")", broker.deed(a, what), model.deed(a, what));
                break;
        }
    }

    private void ahead() {
        int a = around(4);
        int n = around(20);
        boolean upper = random.nextBoolean();
        switch (upTo(8)) {
            case 0:
                due("due(" + a + ", " + n + ")", broker.due(a, n), model.due(a, n));
                break;
            case 1:
                due("done(" + n + ")", broker.done(n), model.done(n));
                break;
            case 2:
                due("coins(" + a + ", " + n + ")", broker.coins(a, n), model.coins(a, n));
                break;
            case 3:
                int v = upTo(3) == 0 ? around(60) : around(25);
                int what = around(1);
                due("raise(" + a + ", " + v + ", " + what + ")", broker.raise(a, v, what), model.raise(a, v, what));
                break;
            case 4:
                due("back(" + a + ")", broker.back(a), model.back(a));
                break;
            case 5:
                judge();
                break;
            case 6:
                due("share(" + a + ", " + upper + ")", broker.share(a, upper), model.share(a, upper));
                break;
            case 7:
                int other = around(2);
                what = around(1);
                due("rests(" + a + ", " + other + ", " + what + ")", broker.rests(a, other, what),
                    model.rests(a, other, what));
                break;
            default:
                int m = around(5);
                int x = around(10);
                due("sales(" + m + ", " + x + ", " + upper + ")", broker.sales(m, x, upper), model.sales(m, x, upper));
                break;
        }
    }

    private void judge() {
        int n = 1 + upTo(3);
        long row = 0;
        for (int i = 0; i < n; i++) {
            int kind = upTo(5);
            int middle = kind == 3 || kind == 5 ? upTo(3) : upTo(12) == 0 ? 1 : 0;
            int last = kind == 0 ? upTo(12) / 12 : kind == 3 || kind == 5 ? upTo(9) : upTo(5);
            row = 1000 * row + 100 * kind + 10 * middle + last;
        }
        row = upTo(9) == 0 ? random.nextInt(2000) - 200 : row;
        n = upTo(9) == 0 ? around(4) : n;
        due("judge(" + n + ", " + row + ")", broker.judge(n, row), model.judge(n, row));
    }

    private void asked() {
        switch (upTo(4)) {
            case 0: case 1:
                int t = around(8);
                int v = upTo(1) == 0 ? around(30) : 5 + t;
                due("ask(" + t + ", " + v + ")", broker.ask(t, v), model.ask(t, v));
                int what = around(1);
                due("tickets(" + what + ")", broker.tickets(what), model.tickets(what));
                break;
            case 2:
                if (upTo(2) == 0) {
                    due("unask()", broker.unask(), model.unask());
                }
                break;
            case 3:
                long seed = upTo(3) == 0 ? upTo(9) : random.nextLong();
                due("seed(" + seed + ")", broker.seed(seed), model.seed(seed));
                break;
            default:
                int m = around(30);
                due("years(" + m + ")", broker.years(m), model.years(m));
                break;
        }
    }
}
