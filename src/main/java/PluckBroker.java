/** A broker who advances coins on qualities: the shop is told as a text, then lived through day by day. */
public final class PluckBroker {
    public static final int UNKNOWN = -1, BAD = -2, LATE = -3, FULL = -4, NONE = -9;

    private static final int PERSONS_MOST = 3, QUALITIES_MOST = 5, DEEDS_MOST = 5;
    private static final int TEXT_MOST = 48, ACTS_MOST = 14, ASKED_MOST = 6, SLOTS = 2;
    private static final int DAYS_AHEAD_MOST = 20, RAISED_MOST = 60, WORTH_MOST = 9, GIVEN_MOST = 9;
    private static final int ASKED_DAY_MOST = 8, ASKED_DUE_MOST = 30, YEARS_MOST = 30, JUDGED_MOST = 4;
    private static final int CLAIM = 1, PLUCK = 2, KEEPSAKE = 3;
    private static final int HAD = 0, PLEDGED = 1, SOLD = 2;
    private static final int DONE = 1, FAILED = 2;
    private static final int DAYS_TO_SALE = 9, TILL_FOR_A_FIGURE = 4, LOSS_FOR_A_DEED = 5, GIFT_OF_A_YEAR = 2;
    private static final int SETS_OF_QUALITIES = 1 << QUALITIES_MOST;
    private static final long SEED_FACTOR = 6364136223846793005L, SEED_STEP = 1442695040888963407L;

    private final Text text = new Text();
    private final Plan plan = new Plan();
    /** A text with a fault is read into this one, so that the shop stays as it is. */
    private final Plan draft = new Plan();
    private final State now = new State(plan);
    /** What would be: every question about days to come is tried out on this one, so that asking changes nothing. */
    private final State ahead = new State(plan);
    private final Acts acts = new Acts();
    private final Asked asked = new Asked();
    private final int[] kept = new int[SLOTS * State.SIZE];
    private int keptSlots;
    private long chance;

    public PluckBroker() {
    }

    // ---- the shop

    public int write(int letter) {
        if (letter < 0 || letter > 255) {
            return BAD;
        }
        if (text.length >= TEXT_MOST) {
            return FULL;
        }
        text.append(letter);
        return text.length;
    }

    public int wipe() {
        int was = text.length;
        text.length = 0;
        return was;
    }

    public int fault() {
        return text.readInto(draft);
    }

    public int shop() {
        if (text.readInto(draft) != NONE) {
            return LATE;
        }
        text.readInto(plan);
        now.begin();
        acts.forget();
        keptSlots = 0;
        return 100 * plan.persons + 10 * plan.qualities + plan.deeds;
    }

    public int about(int what) {
        switch (what) {
            case 0: return plan.persons;
            case 1: return plan.qualities;
            case 2: return plan.deeds;
            case 3: return now.today();
            case 4: return now.inTill();
            case 5: return now.qualitiesThatAre(HAD);
            case 6: return now.qualitiesThatAre(PLEDGED);
            case 7: return now.qualitiesThatAre(SOLD);
            case 8: return now.deedsThatAre(DONE);
            case 9: return now.deedsThatAre(FAILED);
            case 10: return acts.count;
            case 11: return asked.count;
            case 12: return text.length;
            default: return BAD;
        }
    }

    public int person(int person, int what) {
        if (!plan.hasPerson(person)) {
            return UNKNOWN;
        }
        switch (what) {
            case 0: return now.purseOf(person);
            case 1: return plan.qualitiesOf(person);
            case 2: return plan.deedsOf(person);
            default: return BAD;
        }
    }

    public int quality(int quality, int what) {
        if (!plan.hasQuality(quality)) {
            return UNKNOWN;
        }
        switch (what) {
            case 0: return plan.ownerOf(quality);
            case 1: return plan.worthOf(quality);
            case 2: return plan.kindOf(quality);
            case 3: return now.standingOf(quality);
            case 4: return now.standingOf(quality) == PLEDGED ? now.pledgedOn(quality) : NONE;
            case 5: return now.owedFor(quality);
            default: return BAD;
        }
    }

    public int deed(int deed, int what) {
        if (!plan.hasDeed(deed)) {
            return UNKNOWN;
        }
        switch (what) {
            case 0: return plan.wantedBy(deed);
            case 1: return plan.dayOf(deed);
            case 2: return plan.rewardOf(deed);
            case 3: return now.outcomeOf(deed);
            default: return BAD;
        }
    }

    // ---- acts

    public int day() {
        acts.remember(now);
        return now.passDay();
    }

    public int pledge(int quality) {
        if (!plan.hasQuality(quality)) {
            return UNKNOWN;
        }
        if (!now.canPledge(quality)) {
            return LATE;
        }
        acts.remember(now);
        now.tryPledge(quality);
        return now.inTill();
    }

    public int redeem(int quality) {
        if (!plan.hasQuality(quality)) {
            return UNKNOWN;
        }
        if (!now.canRedeem(quality)) {
            return LATE;
        }
        acts.remember(now);
        now.tryRedeem(quality);
        return now.purseOf(plan.ownerOf(quality));
    }

    public int give(int person, int n) {
        if (!plan.hasPerson(person)) {
            return UNKNOWN;
        }
        if (n < 1 || n > GIVEN_MOST) {
            return BAD;
        }
        acts.remember(now);
        now.tryGive(person, n);
        return now.purseOf(person);
    }

    public int undo() {
        if (acts.count == 0) {
            return LATE;
        }
        acts.takeBack(now);
        return acts.count;
    }

    // ---- days to come

    public int due(int quality, int n) {
        if (!plan.hasQuality(quality)) {
            return UNKNOWN;
        }
        if (isNoDaysAhead(n)) {
            return BAD;
        }
        lookAhead(n);
        return ahead.owedFor(quality);
    }

    public int done(int n) {
        if (isNoDaysAhead(n)) {
            return BAD;
        }
        lookAhead(n);
        return ahead.deedsThatAre(DONE);
    }

    public int coins(int person, int n) {
        if (!plan.hasPerson(person)) {
            return UNKNOWN;
        }
        if (isNoDaysAhead(n)) {
            return BAD;
        }
        lookAhead(n);
        return ahead.purseOf(person);
    }

    public int raise(int person, int v, int what) {
        if (!plan.hasPerson(person)) {
            return UNKNOWN;
        }
        if (v < 0 || v > RAISED_MOST || isNoChoice(what)) {
            return BAD;
        }
        int best = NONE;
        int most = NONE;
        for (int set = 0; set < SETS_OF_QUALITIES; set++) {
            int deeds = deedsIfPledged(set, person, v);
            // sets come by their bits, so that of like ones the least is met first and stays
            boolean fewer = deeds == most && Integer.bitCount(set) < Integer.bitCount(best);
            if (deeds != NONE && (deeds > most || fewer)) {
                best = set;
                most = deeds;
            }
        }
        return what == 0 ? best : most;
    }

    public int back(int quality) {
        if (!plan.hasQuality(quality)) {
            return UNKNOWN;
        }
        if (now.standingOf(quality) != PLEDGED) {
            return LATE;
        }
        ahead.copy(now);
        for (int n = 0; n <= DAYS_AHEAD_MOST; n++) {
            if (ahead.canRedeem(quality)) {
                return n;
            }
            ahead.passDay();
        }
        return NONE;
    }

    public int judge(int n, long row) {
        if (n < 1 || n > JUDGED_MOST) {
            return BAD;
        }
        long limit = 1;
        for (int doing = 0; doing < n; doing++) {
            limit *= 1000;
        }
        if (row < 0 || row >= limit) {
            return BAD;
        }
        ahead.copy(now);
        long unit = limit / 1000;
        for (int place = 0; place < n && unit > 0; place++) {
            int figures = (int) (row / unit % 1000);
            if (!ahead.goesThrough(figures / 100, figures / 10 % 10, figures % 10)) {
                return place;
            }
            unit /= 1000;
        }
        return NONE;
    }

    public int share(int quality, boolean upper) {
        if (!plan.hasQuality(quality)) {
            return UNKNOWN;
        }
        // a deed hangs on its own quality alone, whoever else has come: so all orders add alike, and the mean is that
        ahead.copy(now);
        ahead.sellAllBut(NONE);
        int without = ahead.deedsInTheEnd();
        ahead.copy(now);
        ahead.sellAllBut(quality);
        int more = Integer.bitCount(ahead.deedsInTheEnd()) - Integer.bitCount(without);
        return partOfFraction(more, 1, upper);
    }

    // ---- asked

    public int ask(int t, int v) {
        if (t < 0 || t > ASKED_DAY_MOST || v < 0 || v > ASKED_DUE_MOST) {
            return BAD;
        }
        if (asked.count >= ASKED_MOST) {
            return FULL;
        }
        asked.add(t, v);
        return asked.count;
    }

    public int unask() {
        int was = asked.count;
        asked.count = 0;
        return was;
    }

    public int tickets(int what) {
        if (isNoChoice(what)) {
            return BAD;
        }
        int found = 0;
        int first = NONE;
        for (int kind = 0; kind <= KEEPSAKE; kind++) {
            for (int worth = 1; worth <= WORTH_MOST; worth++) {
                if (asked.fits(kind, worth)) {
                    first = found == 0 ? 10 * kind + worth : first;
                    found++;
                }
            }
        }
        return what == 0 ? found : first;
    }

    // ---- rests, chances

    public int rests(int one, int other, int what) {
        if (!plan.hasPerson(one) || !plan.hasPerson(other)) {
            return UNKNOWN;
        }
        if (one == other || isNoChoice(what)) {
            return BAD;
        }
        int found = 0;
        int first = NONE;
        for (int pair = 0; pair < 4; pair++) {
            boolean oneRests = gain(one, one, other, pair) >= gain(one, one, other, pair ^ 2);
            boolean otherRests = gain(other, one, other, pair) >= gain(other, one, other, pair ^ 1);
            if (oneRests && otherRests) {
                first = found == 0 ? 10 * (pair >> 1) + (pair & 1) : first;
                found++;
            }
        }
        return what == 0 ? found : first;
    }

    public int sales(int m, int x, boolean upper) {
        if (m < 0 || m > DEEDS_MOST || x < 0 || x > 10) {
            return BAD;
        }
        int pledged = now.qualitiesThatAre(PLEDGED);
        int enough = 0;
        int all = 0;
        for (int sold = 0; sold < SETS_OF_QUALITIES; sold++) {
            if ((sold & ~pledged) == 0) {
                int weight = weightOfSale(sold, pledged, x);
                all += weight;
                enough += deedsIfSold(sold) >= m ? weight : 0;
            }
        }
        return partOfFraction(enough, all, upper);
    }

    public long seed(long v) {
        long was = chance;
        chance = v;
        return was;
    }

    public int years(int m) {
        if (m < 1 || m > YEARS_MOST) {
            return BAD;
        }
        ahead.copy(now);
        int together = 0;
        for (int time = 0; time < m; time++) {
            chance = chance * SEED_FACTOR + SEED_STEP;
            ahead.chances((int) ((chance >>> 33) % 24));
            together += ahead.inAllPurses();
        }
        return together;
    }

    // ---- slots

    public int keep(int slot) {
        if (slot < 0 || slot >= SLOTS) {
            return UNKNOWN;
        }
        now.saveTo(kept, slot);
        keptSlots |= 1 << slot;
        return now.today();
    }

    public int again(int slot) {
        if (slot < 0 || slot >= SLOTS) {
            return UNKNOWN;
        }
        if ((keptSlots >> slot & 1) == 0) {
            return LATE;
        }
        now.loadFrom(kept, slot);
        acts.forget();
        return now.today();
    }

    // ---- what the calls share

    private static boolean isNoDaysAhead(int n) {
        return n < 0 || n > DAYS_AHEAD_MOST;
    }

    private static boolean isNoChoice(int what) {
        return what < 0 || what > 1;
    }

    private void lookAhead(int days) {
        ahead.copy(now);
        for (int passed = 0; passed < days; passed++) {
            ahead.passDay();
        }
    }

    /** How many of a person's deeds are done if it pledges the set; NONE if it can not, or has less than v by it. */
    private int deedsIfPledged(int set, int person, int v) {
        if ((set & ~plan.qualitiesOf(person)) != 0) {
            return NONE;
        }
        ahead.copy(now);
        for (int quality = 0; quality < QUALITIES_MOST; quality++) {
            if ((set >> quality & 1) == 1 && !ahead.tryPledge(quality)) {
                return NONE;
            }
        }
        if (ahead.purseOf(person) < v) {
            return NONE;
        }
        return Integer.bitCount(ahead.deedsInTheEnd() & plan.deedsOf(person));
    }

    /** What one of both has by a pair of choices, told as two bits: the upper is the one's, the lower the other's. */
    private int gain(int whose, int one, int other, int pair) {
        ahead.copy(now);
        if ((pair & 2) != 0) {
            ahead.tryPledge(ahead.dearestOf(one));
        }
        if ((pair & 1) != 0) {
            ahead.tryPledge(ahead.dearestOf(other));
        }
        int purse = ahead.purseOf(whose);
        int lost = Integer.bitCount(plan.deedsOf(whose) & ~ahead.deedsInTheEnd());
        return purse - LOSS_FOR_A_DEED * lost;
    }

    private int deedsIfSold(int sold) {
        ahead.copy(now);
        ahead.settle(sold);
        return Integer.bitCount(ahead.deedsInTheEnd());
    }

    private static int weightOfSale(int sold, int pledged, int x) {
        int weight = 1;
        for (int quality = 0; quality < QUALITIES_MOST; quality++) {
            if ((pledged >> quality & 1) == 1) {
                weight *= (sold >> quality & 1) == 1 ? x : 10 - x;
            }
        }
        return weight;
    }

    /** The upper or the lower number of a fraction in least terms. */
    private static int partOfFraction(int over, int under, boolean upper) {
        int common = under;
        int rest = over;
        // Euclid's way; numbers of 32 bits take fewer than 48 steps
        for (int step = 0; step < 48 && rest != 0; step++) {
            int next = common % rest;
            common = rest;
            rest = next;
        }
        if (common == 0) {
            return 0;
        }
        return (upper ? over : under) / common;
    }

    private static int dueFor(int kind, int worth, int days, int onDay) {
        switch (kind) {
            case CLAIM: return worth + 2 * days;
            case PLUCK: return onDay % 7 == 6 ? worth : worth + days;
            case KEEPSAKE: return worth;
            default: return worth + days;
        }
    }

    private static int cell(int[] row, int place) {
        return place >= 0 && place < row.length ? row[place] : 0;
    }

    private static void put(int[] row, int place, int value) {
        if (place >= 0 && place < row.length) {
            row[place] = value;
        }
    }

    /** The bytes written, and a cursor that reads them. */
    private static final class Text {
        private final int[] bytes = new int[TEXT_MOST];
        private int length;
        private int cursor;

        void append(int letter) {
            put(bytes, length, letter);
            length++;
        }

        /** Where the cursor can not go on is the fault: a byte that is wrong there, or the end, if more must come. */
        int readInto(Plan plan) {
            plan.clear();
            cursor = 0;
            if (upcoming() != 'B') {
                return cursor;
            }
            cursor++;
            int figure = figure(0, 9);
            if (figure < 0) {
                return cursor;
            }
            plan.tillFigure = figure;
            for (int thing = 0; thing < TEXT_MOST && cursor < length; thing++) {
                if (!readThing(plan)) {
                    return cursor;
                }
            }
            return NONE;
        }

        /** A letter behind which nothing could be right (nobody to have it, one too many) is wrong itself. */
        private boolean readThing(Plan plan) {
            int letter = upcoming();
            if (letter == 'P' && plan.persons < PERSONS_MOST) {
                cursor++;
                return readPerson(plan);
            }
            if (letter == 'Q' && plan.qualities < QUALITIES_MOST && plan.persons > 0) {
                cursor++;
                return readQuality(plan);
            }
            if (letter == 'D' && plan.deeds < DEEDS_MOST && plan.qualities > 0) {
                cursor++;
                return readDeed(plan);
            }
            return false;
        }

        private boolean readPerson(Plan plan) {
            int purse = figure(0, 9);
            if (purse < 0) {
                return false;
            }
            plan.addPerson(purse);
            return true;
        }

        private boolean readQuality(Plan plan) {
            int owner = figure(0, plan.persons - 1);
            int worth = owner < 0 ? -1 : figure(1, WORTH_MOST);
            int kind = worth < 0 ? -1 : figure(0, KEEPSAKE);
            if (kind < 0) {
                return false;
            }
            plan.addQuality(owner, worth, kind);
            return true;
        }

        private boolean readDeed(Plan plan) {
            int wanted = figure(0, plan.qualities - 1);
            int onDay = wanted < 0 ? -1 : figure(0, 9);
            int reward = onDay < 0 ? -1 : figure(0, 9);
            if (reward < 0) {
                return false;
            }
            plan.addDeed(wanted, onDay, reward);
            return true;
        }

        private int upcoming() {
            return cursor < length ? cell(bytes, cursor) : -1;
        }

        /** The figure at the cursor, which goes behind it; -1, and the cursor stays, if it is not from low to high. */
        private int figure(int low, int high) {
            int letter = upcoming();
            if (letter < '0' + low || letter > '0' + high) {
                return -1;
            }
            cursor++;
            return letter - '0';
        }
    }

    /** What a text tells of a shop: this never changes while the shop is lived through. */
    private static final class Plan {
        private final int[] purses = new int[PERSONS_MOST];
        private final int[] owners = new int[QUALITIES_MOST];
        private final int[] worths = new int[QUALITIES_MOST];
        private final int[] kinds = new int[QUALITIES_MOST];
        private final int[] wanted = new int[DEEDS_MOST];
        private final int[] onDays = new int[DEEDS_MOST];
        private final int[] rewards = new int[DEEDS_MOST];
        private int tillFigure;
        private int persons;
        private int qualities;
        private int deeds;

        void clear() {
            tillFigure = 0;
            persons = 0;
            qualities = 0;
            deeds = 0;
        }

        void addPerson(int purse) {
            put(purses, persons, purse);
            persons++;
        }

        void addQuality(int owner, int worth, int kind) {
            put(owners, qualities, owner);
            put(worths, qualities, worth);
            put(kinds, qualities, kind);
            qualities++;
        }

        void addDeed(int quality, int onDay, int reward) {
            put(wanted, deeds, quality);
            put(onDays, deeds, onDay);
            put(rewards, deeds, reward);
            deeds++;
        }

        boolean hasPerson(int person) {
            return person >= 0 && person < persons;
        }

        boolean hasQuality(int quality) {
            return quality >= 0 && quality < qualities;
        }

        boolean hasDeed(int deed) {
            return deed >= 0 && deed < deeds;
        }

        int firstPurseOf(int person) {
            return cell(purses, person);
        }

        int ownerOf(int quality) {
            return cell(owners, quality);
        }

        int worthOf(int quality) {
            return cell(worths, quality);
        }

        int kindOf(int quality) {
            return cell(kinds, quality);
        }

        int wantedBy(int deed) {
            return cell(wanted, deed);
        }

        int dayOf(int deed) {
            return cell(onDays, deed);
        }

        int rewardOf(int deed) {
            return cell(rewards, deed);
        }

        int qualitiesOf(int person) {
            int bits = 0;
            for (int quality = 0; quality < qualities; quality++) {
                bits |= ownerOf(quality) == person ? 1 << quality : 0;
            }
            return bits;
        }

        int deedsOf(int person) {
            int bits = 0;
            for (int deed = 0; deed < deeds; deed++) {
                bits |= ownerOf(wantedBy(deed)) == person ? 1 << deed : 0;
            }
            return bits;
        }
    }

    /** How a shop stands; it is one row of numbers, so that it is copied, kept and brought back in one piece. */
    private static final class State {
        private static final int TILL = 0, TODAY = 1, PURSES = 2, STANDINGS = PURSES + PERSONS_MOST;
        private static final int SINCE = STANDINGS + QUALITIES_MOST, OUTCOMES = SINCE + QUALITIES_MOST;
        private static final int SIZE = OUTCOMES + DEEDS_MOST;

        private final Plan plan;
        private final int[] cells = new int[SIZE];

        State(Plan plan) {
            this.plan = plan;
        }

        void begin() {
            for (int place = 0; place < cells.length; place++) {
                cells[place] = 0;
            }
            put(cells, TILL, TILL_FOR_A_FIGURE * plan.tillFigure);
            for (int person = 0; person < plan.persons; person++) {
                put(cells, PURSES + person, plan.firstPurseOf(person));
            }
        }

        void copy(State other) {
            other.saveTo(cells, 0);
        }

        /** The numbered place of a store that has room for several states. */
        void saveTo(int[] store, int number) {
            for (int place = 0; place < cells.length; place++) {
                put(store, number * SIZE + place, cells[place]);
            }
        }

        void loadFrom(int[] store, int number) {
            for (int place = 0; place < cells.length; place++) {
                cells[place] = cell(store, number * SIZE + place);
            }
        }

        int inTill() {
            return cell(cells, TILL);
        }

        int today() {
            return cell(cells, TODAY);
        }

        int purseOf(int person) {
            return cell(cells, PURSES + person);
        }

        int standingOf(int quality) {
            return cell(cells, STANDINGS + quality);
        }

        int pledgedOn(int quality) {
            return cell(cells, SINCE + quality);
        }

        int outcomeOf(int deed) {
            return cell(cells, OUTCOMES + deed);
        }

        int inAllPurses() {
            int together = 0;
            for (int person = 0; person < plan.persons; person++) {
                together += purseOf(person);
            }
            return together;
        }

        int qualitiesThatAre(int standing) {
            int bits = 0;
            for (int quality = 0; quality < plan.qualities; quality++) {
                bits |= standingOf(quality) == standing ? 1 << quality : 0;
            }
            return bits;
        }

        int deedsThatAre(int outcome) {
            int bits = 0;
            for (int deed = 0; deed < plan.deeds; deed++) {
                bits |= outcomeOf(deed) == outcome ? 1 << deed : 0;
            }
            return bits;
        }

        int owedFor(int quality) {
            if (standingOf(quality) != PLEDGED) {
                return 0;
            }
            return dueFor(plan.kindOf(quality), plan.worthOf(quality), today() - pledgedOn(quality), today());
        }

        /** The had quality of most worth; NONE if there is none. */
        int dearestOf(int person) {
            int dearest = NONE;
            for (int quality = 0; quality < plan.qualities; quality++) {
                boolean own = plan.ownerOf(quality) == person && standingOf(quality) == HAD;
                if (own && (dearest == NONE || plan.worthOf(quality) > plan.worthOf(dearest))) {
                    dearest = quality;
                }
            }
            return dearest;
        }

        boolean canPledge(int quality) {
            return plan.hasQuality(quality) && standingOf(quality) == HAD && inTill() >= plan.worthOf(quality);
        }

        boolean canRedeem(int quality) {
            return plan.hasQuality(quality) && standingOf(quality) == PLEDGED
                && purseOf(plan.ownerOf(quality)) >= owedFor(quality);
        }

        boolean tryPledge(int quality) {
            if (!canPledge(quality)) {
                return false;
            }
            pay(plan.ownerOf(quality), plan.worthOf(quality));
            put(cells, TILL, inTill() - plan.worthOf(quality));
            put(cells, STANDINGS + quality, PLEDGED);
            put(cells, SINCE + quality, today());
            return true;
        }

        boolean tryRedeem(int quality) {
            if (!canRedeem(quality)) {
                return false;
            }
            int owed = owedFor(quality);
            pay(plan.ownerOf(quality), -owed);
            put(cells, TILL, inTill() + owed);
            put(cells, STANDINGS + quality, HAD);
            return true;
        }

        boolean tryGive(int person, int n) {
            if (!plan.hasPerson(person) || n < 1 || n > GIVEN_MOST) {
                return false;
            }
            pay(person, n);
            return true;
        }

        private void pay(int person, int n) {
            put(cells, PURSES + person, cell(cells, PURSES + person) + n);
        }

        /** How many deeds were done in it. */
        int passDay() {
            int deedsDone = 0;
            for (int deed = 0; deed < plan.deeds; deed++) {
                if (plan.dayOf(deed) == today()) {
                    deedsDone += tryDeed(deed) ? 1 : 0;
                }
            }
            put(cells, TODAY, today() + 1);
            sellOverdue();
            return deedsDone;
        }

        private boolean tryDeed(int deed) {
            int quality = plan.wantedBy(deed);
            if (standingOf(quality) != HAD) {
                put(cells, OUTCOMES + deed, FAILED);
                return false;
            }
            put(cells, OUTCOMES + deed, DONE);
            pay(plan.ownerOf(quality), plan.rewardOf(deed));
            return true;
        }

        private void sellOverdue() {
            for (int quality = 0; quality < plan.qualities; quality++) {
                boolean overdue = standingOf(quality) == PLEDGED && today() - pledgedOn(quality) >= DAYS_TO_SALE;
                if (overdue && plan.kindOf(quality) != KEEPSAKE) {
                    put(cells, STANDINGS + quality, SOLD);
                }
            }
        }

        /** The deeds that are done when all days that can be looked at have passed; the state is behind them then. */
        int deedsInTheEnd() {
            for (int passed = 0; passed < DAYS_AHEAD_MOST; passed++) {
                passDay();
            }
            return deedsThatAre(DONE);
        }

        void sellAllBut(int spared) {
            for (int quality = 0; quality < plan.qualities; quality++) {
                if (quality != spared) {
                    put(cells, STANDINGS + quality, SOLD);
                }
            }
        }

        /** Ends all pledges: those in the set are sold, those outside it come back for nothing. */
        void settle(int sold) {
            for (int quality = 0; quality < plan.qualities; quality++) {
                if (standingOf(quality) == PLEDGED) {
                    put(cells, STANDINGS + quality, (sold >> quality & 1) == 1 ? SOLD : HAD);
                }
            }
        }

        /** A doing as it is told for judging: it is done, or looked at; false if it can not be, or is not so. */
        boolean goesThrough(int doing, int middle, int last) {
            if (doing == 3) {
                return tryGive(middle, last);
            }
            if (doing == 5) {
                return plan.hasPerson(middle) && purseOf(middle) >= last;
            }
            if (middle != 0) {
                return false;
            }
            switch (doing) {
                case 0:
                    if (last == 0) {
                        passDay();
                    }
                    return last == 0;
                case 1: return tryPledge(last);
                case 2: return tryRedeem(last);
                case 4: return plan.hasDeed(last) && outcomeOf(last) == DONE;
                default: return false;
            }
        }

        /** One of 24 things that chance has happen; what can not be is left undone. */
        void chances(int thing) {
            if (thing < 5) {
                tryPledge(thing);
            } else if (thing < 10) {
                tryRedeem(thing - 5);
            } else if (thing < 13) {
                tryGive(thing - 10, GIFT_OF_A_YEAR);
            } else {
                passDay();
            }
        }
    }

    /** The states ahead of the last acts, in a ring, so that the first is forgotten when one more comes. */
    private static final class Acts {
        private final int[] states = new int[ACTS_MOST * State.SIZE];
        private int upcoming;
        private int count;

        void remember(State state) {
            state.saveTo(states, upcoming);
            upcoming = upcoming + 1 < ACTS_MOST ? upcoming + 1 : 0;
            count = count < ACTS_MOST ? count + 1 : ACTS_MOST;
        }

        void takeBack(State state) {
            upcoming = upcoming > 0 ? upcoming - 1 : ACTS_MOST - 1;
            count--;
            state.loadFrom(states, upcoming);
        }

        void forget() {
            count = 0;
        }
    }

    /** What an unknown quality was due on some days. */
    private static final class Asked {
        private final int[] days = new int[ASKED_MOST];
        private final int[] dues = new int[ASKED_MOST];
        private int count;

        void add(int onDay, int due) {
            put(days, count, onDay);
            put(dues, count, due);
            count++;
        }

        boolean fits(int kind, int worth) {
            for (int place = 0; place < count; place++) {
                int onDay = cell(days, place);
                if (dueFor(kind, worth, onDay, onDay) != cell(dues, place)) {
                    return false;
                }
            }
            return true;
        }
    }
}
