import java.math.BigInteger;
import java.util.ArrayDeque;
import java.util.ArrayList;
import java.util.Comparator;
import java.util.Deque;
import java.util.List;
import java.util.regex.Pattern;

/** The document a second time, the slow way: by trying all completions, all orders, all choices. */
final class Model {
    private static final String[] ENDINGS = {"", "B0", "0", "00", "10", "000", "010"};
    private static final Pattern SHOP = Pattern.compile("B[0-9](P[0-9]|Q[0-2][1-9][0-3]|D[0-4][0-9][0-9])*");

    static final class Quality {
        int owner, worth, kind, since;
        char standing = 'h';

        int dueOn(int day) {
            int k = day - since;
            boolean saturday = day % 7 == 6;
            return worth + (kind == 0 ? k : kind == 1 ? k + k : kind == 2 && !saturday ? k : 0);
        }
    }

    static final class Deed {
        int quality, day, coins;
        char outcome = 'o';
    }

    static final class Shop {
        int till, day;
        List<Integer> purses = new ArrayList<>();
        List<Quality> qualities = new ArrayList<>();
        List<Deed> deeds = new ArrayList<>();

        Shop twin() {
            Shop twin = new Shop();
            twin.till = till;
            twin.day = day;
            twin.purses.addAll(purses);
            for (Quality q : qualities) {
                Quality copy = new Quality();
                copy.owner = q.owner;
                copy.worth = q.worth;
                copy.kind = q.kind;
                copy.since = q.since;
                copy.standing = q.standing;
                twin.qualities.add(copy);
            }
            for (Deed d : deeds) {
                Deed copy = new Deed();
                copy.quality = d.quality;
                copy.day = d.day;
                copy.coins = d.coins;
                copy.outcome = d.outcome;
                twin.deeds.add(copy);
            }
            return twin;
        }

        boolean pledge(int number) {
            if (number >= qualities.size()) {
                return false;
            }
            Quality q = qualities.get(number);
            if (q.standing != 'h' || till < q.worth) {
                return false;
            }
            till -= q.worth;
            purses.set(q.owner, purses.get(q.owner) + q.worth);
            q.standing = 'p';
            q.since = day;
            return true;
        }

        boolean redeem(int number) {
            if (number >= qualities.size()) {
                return false;
            }
            Quality q = qualities.get(number);
            if (q.standing != 'p' || purses.get(q.owner) < q.dueOn(day)) {
                return false;
            }
            till += q.dueOn(day);
            purses.set(q.owner, purses.get(q.owner) - q.dueOn(day));
            q.standing = 'h';
            return true;
        }

        boolean give(int person, int n) {
            if (person >= purses.size() || n < 1 || n > 9) {
                return false;
            }
            purses.set(person, purses.get(person) + n);
            return true;
        }

        int live() {
            int count = 0;
            for (Deed d : deeds) {
                if (d.day == day) {
                    Quality q = qualities.get(d.quality);
                    d.outcome = q.standing == 'h' ? 'd' : 'f';
                    if (d.outcome == 'd') {
                        count++;
                        purses.set(q.owner, purses.get(q.owner) + d.coins);
                    }
                }
            }
            day++;
            for (Quality q : qualities) {
                if (q.standing == 'p' && q.kind != 3 && day - q.since == 9) {
                    q.standing = 's';
                }
            }
            return count;
        }

        Shop in(int days) {
            Shop later = twin();
            for (int i = 0; i < days; i++) {
                later.live();
            }
            return later;
        }

        int bits(char standing) {
            int bits = 0;
            for (int i = 0; i < qualities.size(); i++) {
                bits += qualities.get(i).standing == standing ? 1 << i : 0;
            }
            return bits;
        }

        int deedBits(char outcome) {
            int bits = 0;
            for (int i = 0; i < deeds.size(); i++) {
                bits += deeds.get(i).outcome == outcome ? 1 << i : 0;
            }
            return bits;
        }

        int doneInTwenty(int person) {
            int count = 0;
            for (Deed d : in(20).deeds) {
                boolean counts = person < 0 || qualities.get(d.quality).owner == person;
                count += counts && d.outcome == 'd' ? 1 : 0;
            }
            return count;
        }
    }

    private final StringBuilder text = new StringBuilder();
    private Shop shop = new Shop();
    private final Deque<Shop> acts = new ArrayDeque<>();
    private final List<int[]> asked = new ArrayList<>();
    private final Shop[] kept = new Shop[2];
    private BigInteger seed = BigInteger.ZERO;

    int write(int letter) {
        if (letter < 0 || letter > 255) {
            return -2;
        }
        if (text.length() == 48) {
            return -4;
        }
        text.append((char) letter);
        return text.length();
    }

    int wipe() {
        int was = text.length();
        text.setLength(0);
        return was;
    }

    private static boolean isShop(String told) {
        if (!SHOP.matcher(told).matches()) {
            return false;
        }
        int persons = 0;
        int qualities = 0;
        int deeds = 0;
        for (int i = 2; i < told.length(); i += told.charAt(i) == 'P' ? 2 : 4) {
            int figure = told.charAt(i + 1) - '0';
            switch (told.charAt(i)) {
                case 'P':
                    persons++;
                    break;
                case 'Q':
                    if (figure >= persons) {
                        return false;
                    }
                    qualities++;
                    break;
                default:
                    if (figure >= qualities) {
                        return false;
                    }
                    deeds++;
                    break;
            }
        }
        return persons <= 3 && qualities <= 5 && deeds <= 5;
    }

    int fault() {
        String told = text.toString();
        for (int i = 0; i < told.length(); i++) {
            boolean can = false;
            for (String ending : ENDINGS) {
                can |= isShop(told.substring(0, i + 1) + ending);
            }
            if (!can) {
                return i;
            }
        }
        return isShop(told) ? -9 : told.length();
    }

    int shop() {
        if (fault() != -9) {
            return -3;
        }
        shop = new Shop();
        shop.till = 4 * (text.charAt(1) - '0');
        for (int i = 2; i < text.length(); i += text.charAt(i) == 'P' ? 2 : 4) {
            if (text.charAt(i) == 'P') {
                shop.purses.add(text.charAt(i + 1) - '0');
            } else if (text.charAt(i) == 'Q') {
                Quality q = new Quality();
                q.owner = text.charAt(i + 1) - '0';
                q.worth = text.charAt(i + 2) - '0';
                q.kind = text.charAt(i + 3) - '0';
                shop.qualities.add(q);
            } else {
                Deed d = new Deed();
                d.quality = text.charAt(i + 1) - '0';
                d.day = text.charAt(i + 2) - '0';
                d.coins = text.charAt(i + 3) - '0';
                shop.deeds.add(d);
            }
        }
        acts.clear();
        kept[0] = null;
        kept[1] = null;
        return 100 * shop.purses.size() + 10 * shop.qualities.size() + shop.deeds.size();
    }

    int about(int what) {
        int[] all = {shop.purses.size(), shop.qualities.size(), shop.deeds.size(), shop.day, shop.till, shop.bits('h'),
            shop.bits('p'), shop.bits('s'), shop.deedBits('d'), shop.deedBits('f'), acts.size(), asked.size(),
            text.length()};
        return pick(all, what);
    }

    private static int pick(int[] all, int what) {
        return what < 0 || what >= all.length ? -2 : all[what];
    }

    private static boolean in(List<?> list, int number) {
        return number >= 0 && number < list.size();
    }

    int person(int person, int what) {
        if (!in(shop.purses, person)) {
            return -1;
        }
        int own = 0;
        for (int i = 0; i < shop.qualities.size(); i++) {
            own += shop.qualities.get(i).owner == person ? 1 << i : 0;
        }
        int deeds = 0;
        for (int i = 0; i < shop.deeds.size(); i++) {
            deeds += (own >> shop.deeds.get(i).quality) % 2 == 1 ? 1 << i : 0;
        }
        return pick(new int[] {shop.purses.get(person), own, deeds}, what);
    }

    int quality(int quality, int what) {
        if (!in(shop.qualities, quality)) {
            return -1;
        }
        Quality q = shop.qualities.get(quality);
        boolean pledged = q.standing == 'p';
        return pick(new int[] {q.owner, q.worth, q.kind, "hps".indexOf(q.standing), pledged ? q.since : -9,
            pledged ? q.dueOn(shop.day) : 0}, what);
    }

    int deed(int deed, int what) {
        if (!in(shop.deeds, deed)) {
            return -1;
        }
        Deed d = shop.deeds.get(deed);
        return pick(new int[] {d.quality, d.day, d.coins, "odf".indexOf(d.outcome)}, what);
    }

    private void act(Shop ahead) {
        acts.addLast(ahead);
        if (acts.size() > 14) {
            acts.removeFirst();
        }
    }

    int day() {
        act(shop.twin());
        return shop.live();
    }

    int pledge(int quality) {
        if (!in(shop.qualities, quality)) {
            return -1;
        }
        Shop ahead = shop.twin();
        if (!shop.pledge(quality)) {
            return -3;
        }
        act(ahead);
        return shop.till;
    }

    int redeem(int quality) {
        if (!in(shop.qualities, quality)) {
            return -1;
        }
        Shop ahead = shop.twin();
        if (!shop.redeem(quality)) {
            return -3;
        }
        act(ahead);
        return shop.purses.get(shop.qualities.get(quality).owner);
    }

    int give(int person, int n) {
        if (!in(shop.purses, person)) {
            return -1;
        }
        Shop ahead = shop.twin();
        if (!shop.give(person, n)) {
            return -2;
        }
        act(ahead);
        return shop.purses.get(person);
    }

    int undo() {
        if (acts.isEmpty()) {
            return -3;
        }
        shop = acts.removeLast();
        return acts.size();
    }

    int due(int quality, int n) {
        if (!in(shop.qualities, quality)) {
            return -1;
        }
        if (n < 0 || n > 20) {
            return -2;
        }
        Quality q = shop.in(n).qualities.get(quality);
        return q.standing == 'p' ? q.dueOn(shop.day + n) : 0;
    }

    int done(int n) {
        return n < 0 || n > 20 ? -2 : shop.in(n).deedBits('d');
    }

    int coins(int person, int n) {
        if (!in(shop.purses, person)) {
            return -1;
        }
        return n < 0 || n > 20 ? -2 : shop.in(n).purses.get(person);
    }

    int raise(int person, int v, int what) {
        if (!in(shop.purses, person)) {
            return -1;
        }
        if (v < 0 || v > 60 || what < 0 || what > 1) {
            return -2;
        }
        List<int[]> sets = new ArrayList<>();
        for (int set = 31; set >= 0; set--) {
            Shop trial = shop.twin();
            boolean can = true;
            for (int i = 0; i < 5; i++) {
                if ((set & 1 << i) != 0) {
                    boolean own = i < trial.qualities.size() && trial.qualities.get(i).owner == person;
                    can = can && own && trial.pledge(i);
                }
            }
            if (can && trial.purses.get(person) >= v) {
                sets.add(new int[] {-trial.doneInTwenty(person), Integer.bitCount(set), set});
            }
        }
        sets.sort(Comparator.<int[]>comparingInt(s -> s[0]).thenComparingInt(s -> s[1]).thenComparingInt(s -> s[2]));
        return sets.isEmpty() ? -9 : what == 0 ? sets.get(0)[2] : -sets.get(0)[0];
    }

    int back(int quality) {
        if (!in(shop.qualities, quality)) {
            return -1;
        }
        if (shop.qualities.get(quality).standing != 'p') {
            return -3;
        }
        for (int n = 0; n <= 20; n++) {
            if (shop.in(n).redeem(quality)) {
                return n;
            }
        }
        return -9;
    }

    int judge(int n, long row) {
        if (n < 1 || n > 4 || row < 0 || Long.toString(row).length() > 3 * n) {
            return -2;
        }
        StringBuilder figures = new StringBuilder(Long.toString(row));
        while (figures.length() < 3 * n) {
            figures.insert(0, '0');
        }
        Shop trial = shop.twin();
        for (int place = 0; place < n; place++) {
            if (!goes(trial, figures.substring(3 * place, 3 * place + 3))) {
                return place;
            }
        }
        return -9;
    }

    private static boolean goes(Shop trial, String doing) {
        int middle = doing.charAt(1) - '0';
        int last = doing.charAt(2) - '0';
        if (doing.equals("000")) {
            trial.live();
            return true;
        }
        if (doing.startsWith("10")) {
            return trial.pledge(last);
        }
        if (doing.startsWith("20")) {
            return trial.redeem(last);
        }
        if (doing.startsWith("3")) {
            return trial.give(middle, last);
        }
        if (doing.startsWith("40")) {
            return last < trial.deeds.size() && trial.deeds.get(last).outcome == 'd';
        }
        return doing.startsWith("5") && middle < trial.purses.size() && trial.purses.get(middle) >= last;
    }

    int share(int quality, boolean upper) {
        if (!in(shop.qualities, quality)) {
            return -1;
        }
        int[] sum = {0, 0};
        orders(quality, 0, 0, sum);
        return part(BigInteger.valueOf(sum[0]), BigInteger.valueOf(sum[1]), upper);
    }

    /** Walks all orders; adds what the quality adds when it comes, and counts the orders. */
    private void orders(int quality, int come, int added, int[] sum) {
        if (come == (1 << shop.qualities.size()) - 1) {
            sum[0] += added;
            sum[1]++;
            return;
        }
        for (int next = 0; next < shop.qualities.size(); next++) {
            if ((come & 1 << next) == 0) {
                int with = come | 1 << next;
                int more = next == quality ? worthOf(with) - worthOf(come) : 0;
                orders(quality, with, added + more, sum);
            }
        }
    }

    private int worthOf(int come) {
        Shop trial = shop.twin();
        for (int i = 0; i < trial.qualities.size(); i++) {
            if ((come & 1 << i) == 0) {
                trial.qualities.get(i).standing = 's';
            }
        }
        return trial.doneInTwenty(-1);
    }

    private static int part(BigInteger over, BigInteger under, boolean upper) {
        BigInteger common = over.gcd(under);
        return (upper ? over : under).divide(common).intValueExact();
    }

    int ask(int t, int v) {
        if (t < 0 || t > 8 || v < 0 || v > 30) {
            return -2;
        }
        if (asked.size() == 6) {
            return -4;
        }
        asked.add(new int[] {t, v});
        return asked.size();
    }

    int unask() {
        int was = asked.size();
        asked.clear();
        return was;
    }

    int tickets(int what) {
        if (what < 0 || what > 1) {
            return -2;
        }
        List<Integer> found = new ArrayList<>();
        for (int ticket = 0; ticket < 40; ticket++) {
            Quality q = new Quality();
            q.kind = ticket / 10;
            q.worth = ticket % 10;
            if (q.worth > 0 && asked.stream().allMatch(a -> q.dueOn(a[0]) == a[1])) {
                found.add(ticket);
            }
        }
        return what == 0 ? found.size() : found.isEmpty() ? -9 : found.get(0);
    }

    int rests(int one, int other, int what) {
        if (!in(shop.purses, one) || !in(shop.purses, other)) {
            return -1;
        }
        if (one == other || what < 0 || what > 1) {
            return -2;
        }
        int[][][] gains = new int[2][2][];
        for (int a = 0; a < 2; a++) {
            for (int b = 0; b < 2; b++) {
                Shop trial = shop.twin();
                choose(trial, one, a);
                choose(trial, other, b);
                gains[a][b] = new int[] {gain(trial, one), gain(trial, other)};
            }
        }
        List<Integer> found = new ArrayList<>();
        for (int a = 0; a < 2; a++) {
            for (int b = 0; b < 2; b++) {
                if (gains[1 - a][b][0] <= gains[a][b][0] && gains[a][1 - b][1] <= gains[a][b][1]) {
                    found.add(10 * a + b);
                }
            }
        }
        return what == 0 ? found.size() : found.isEmpty() ? -9 : found.get(0);
    }

    private static void choose(Shop trial, int person, int choice) {
        for (int worth = 9; choice == 1 && worth > 0; worth--) {
            for (int i = 0; i < trial.qualities.size(); i++) {
                Quality q = trial.qualities.get(i);
                if (q.owner == person && q.standing == 'h' && q.worth == worth) {
                    trial.pledge(i);
                    return;
                }
            }
        }
    }

    private static int gain(Shop trial, int person) {
        int gain = trial.purses.get(person);
        for (Deed d : trial.in(20).deeds) {
            gain -= trial.qualities.get(d.quality).owner == person && d.outcome != 'd' ? 5 : 0;
        }
        return gain;
    }

    int sales(int m, int x, boolean upper) {
        if (m < 0 || m > 5 || x < 0 || x > 10) {
            return -2;
        }
        BigInteger under = BigInteger.TEN.pow(Integer.bitCount(shop.bits('p')));
        return part(chance(shop.twin(), 0, m, x), under, upper);
    }

    private static BigInteger chance(Shop trial, int from, int m, int x) {
        for (int i = from; i < trial.qualities.size(); i++) {
            if (trial.qualities.get(i).standing == 'p') {
                Shop sold = trial.twin();
                sold.qualities.get(i).standing = 's';
                Shop back = trial.twin();
                back.qualities.get(i).standing = 'h';
                return chance(sold, i + 1, m, x).multiply(BigInteger.valueOf(x))
                    .add(chance(back, i + 1, m, x).multiply(BigInteger.valueOf(10 - x)));
            }
        }
        return trial.doneInTwenty(-1) >= m ? BigInteger.ONE : BigInteger.ZERO;
    }

    long seed(long v) {
        long was = seed.longValue();
        seed = BigInteger.valueOf(v);
        return was;
    }

    int years(int m) {
        if (m < 1 || m > 30) {
            return -2;
        }
        BigInteger wrap = BigInteger.ONE.shiftLeft(64);
        Shop trial = shop.twin();
        int together = 0;
        for (int i = 0; i < m; i++) {
            seed = seed.multiply(new BigInteger("6364136223846793005"))
                .add(new BigInteger("1442695040888963407")).mod(wrap);
            int thing = seed.shiftRight(33).mod(BigInteger.valueOf(24)).intValue();
            if (thing < 5) {
                trial.pledge(thing);
            } else if (thing < 10) {
                trial.redeem(thing - 5);
            } else if (thing < 13) {
                trial.give(thing - 10, 2);
            } else {
                trial.live();
            }
            together += trial.purses.stream().mapToInt(Integer::intValue).sum();
        }
        return together;
    }

    int keep(int slot) {
        if (slot < 0 || slot > 1) {
            return -1;
        }
        kept[slot] = shop.twin();
        return shop.day;
    }

    int again(int slot) {
        if (slot < 0 || slot > 1) {
            return -1;
        }
        if (kept[slot] == null) {
            return -3;
        }
        shop = kept[slot].twin();
        acts.clear();
        return shop.day;
    }
}
