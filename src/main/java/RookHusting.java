/** Scarecrows elected into fields, and the rooks that eat there. See README.md and the document's numbered promises. */
public final class RookHusting {
    public static final int NONE = -1;

    private static final int NO_SUCH = -2;
    private static final int BELOW_ZERO = -3;
    private static final int FAULTY = -4;
    private static final int REFUSED = -5;
    private static final int NOTHING = -6;
    private static final int NO_NUMBER = -7;
    private static final int OTHER_WIDTH = -8;
    private static final int NO_GAME = -1000;

    private static final int MOST_FIELDS = 5;
    private static final int MOST_HEDGES = 8;
    private static final int MOST_MEN = 5;
    private static final int MOST_VOTERS = 7;
    private static final int MOST_DAYS = 16;
    private static final int MOST_CORN = 300;
    private static final int MOST_FRIGHTS = 40;
    private static final int MOST_ACTS = 30;
    private static final int MOST_BYTES = 700;
    private static final int FEED_BYTES = 20;
    private static final int LAWS = 4;
    private static final int IMAGES = 3;
    private static final int SLOTS = 4;
    private static final int SLOT_SIZE = 60;
    private static final int WIDTHS = 4;
    private static final int SEEN_NUMBERS = 3;
    private static final int MOST_SEEN_ROOKS = 250;
    private static final int MOST_CHANCE_DAY = 7;
    private static final int SPEECH_PRICE = 8;
    private static final int MOST_SEED = 2000000000;
    private static final int MOST_HARVESTS = 20;

    /** One cell a DAY, the last one too. */
    private static final int DAY_CELLS = 17;
    private static final int CELLS = 85;
    /** MEN have the bits 0 to 4 of what was seen, nobody has this one. */
    private static final int NOBODY_BIT = 5;
    private static final int GUESSES = 6;
    private static final int NOT_IN_ROW = -1;

    private static final int WORD = 0;
    private static final int NUMBER = 1;
    private static final int SIGN = 2;
    private static final int OTHER = 3;
    private static final int TAPE_END = 4;

    private static final int BAD_TOKEN = 1;
    private static final int BAD_NUMBER = 2;
    private static final int TOO_MANY = 3;
    /** Above every bound of a number (a long one can't wrap around into its bounds) and above all hats. */
    private static final int HUGE = 1000000;

    private static final int[] ORDERS = {1, 1, 2, 6, 24, 120, 720, 5040};

    private final Tape tape;
    private final Reader reader;
    private final State state;
    private final State[] images;
    private final Slots slots;
    private final Election election;
    private final Scene now;
    private final Scene trial;
    private final Harvest harvest;
    private final Harvest tried;
    private final PutSearch search;
    private final Guesses guesses;
    private int keptImages;
    private boolean settled;
    private boolean plainKnown;
    private int plainVoters;

    public RookHusting() {
        tape = new Tape();
        reader = new Reader(tape);
        state = new State();
        images = new State[IMAGES];
        for (int k = 0; k < IMAGES; k++) {
            images[k] = new State();
        }
        slots = new Slots();
        election = new Election(state.told);
        now = new Scene();
        trial = new Scene();
        harvest = new Harvest();
        tried = new Harvest();
        search = new PutSearch(state.told, trial, tried);
        guesses = new Guesses();
    }

    // ---- the text ----

    public int feed(int a, int b, int c, int d, int e) {
        if (tape.length > MOST_BYTES - FEED_BYTES) {
            return NONE;
        }
        tape.append(a);
        tape.append(b);
        tape.append(c);
        tape.append(d);
        tape.append(e);
        return tape.length;
    }

    public int end(int n) {
        if (n < 0 || n > tape.length) {
            return NONE;
        }
        tape.length = n;
        return n;
    }

    public int hundred() {
        reader.begin();
        for (int line = 0; line < MOST_BYTES && reader.hasMore(); line++) {
            reader.readLine();
        }
        if (reader.fault != 0) {
            return FAULTY;
        }
        tape.length = 0;
        state.told.copyFrom(reader.draft);
        state.acts.size = 0;
        forget();
        return state.told.lines;
    }

    public int fault(int what) {
        if (what == 0) {
            return reader.fault;
        }
        return what == 1 ? reader.place : NONE;
    }

    // ---- what is told ----

    public int field(int field, int what) {
        if (!isField(field) || !isPair(what)) {
            return NO_SUCH;
        }
        return what == 0 ? state.told.corn[field] : state.told.rooks[field];
    }

    public int hedges(int field) {
        return isField(field) ? state.told.joined[field] : NO_SUCH;
    }

    public int man(int man, int what) {
        if (!isMan(man) || !isPair(what)) {
            return NO_SUCH;
        }
        return what == 0 ? state.told.frights[man] : state.told.tires[man];
    }

    public int hats(int voter) {
        return isVoter(voter) ? state.told.hats[voter] : NO_SUCH;
    }

    public int wants(int voter, int i) {
        if (!isVoter(voter)) {
            return NO_SUCH;
        }
        if (i < 0 || i >= state.told.rowLength[voter]) {
            return NONE;
        }
        return state.told.rows[voter * MOST_MEN + i];
    }

    // ---- elections ----

    public int votes(int set, int law, int man) {
        if (!isSet(set) || !isLaw(law) || !isMan(man) || !hasBit(set, man)) {
            return NO_SUCH;
        }
        return election.hatsFor(state.told.ahead, set, law, man, 0);
    }

    public int elects(int set, int law) {
        if (!isSet(set) || !isLaw(law)) {
            return NO_SUCH;
        }
        return election.winner(state.told.ahead, set, law, 0);
    }

    public int elected(int field) {
        if (!isField(field)) {
            return NO_SUCH;
        }
        election.fillFields(trial.standing, state.told.law);
        return trial.standing[field];
    }

    public int stands(int field) {
        if (!isField(field)) {
            return NO_SUCH;
        }
        settle();
        return now.standing[field];
    }

    public int where(int man) {
        if (!isMan(man)) {
            return NO_SUCH;
        }
        settle();
        return now.placeOf(man);
    }

    public int over(int man, int other) {
        if (!isMan(man) || !isMan(other) || man == other) {
            return NO_SUCH;
        }
        return election.hatsOver(man, other);
    }

    public int beats() {
        return isTold() ? election.manOverAll() : NO_SUCH;
    }

    public int rings() {
        return isTold() ? election.countRings() : NO_SUCH;
    }

    public int least(int man) {
        return isMan(man) ? election.fewestAway(man) : NO_SUCH;
    }

    public int gains(int voter) {
        if (!isVoter(voter)) {
            return NO_SUCH;
        }
        learnPlain();
        return hasBit(plainVoters, voter) ? 1 : 0;
    }

    public int plain() {
        if (!isTold()) {
            return NO_SUCH;
        }
        learnPlain();
        return plainVoters;
    }

    public int power(int voter, int what) {
        if (!isVoter(voter) || !isPair(what)) {
            return NO_SUCH;
        }
        return (int) partOf(election.ordersDecided(voter), ORDERS[state.told.voters], what);
    }

    public int loved(int man) {
        return isMan(man) ? election.hatsFirst(man) : NO_SUCH;
    }

    public int shunned(int man) {
        return isMan(man) ? election.hatsWithout(man) : NO_SUCH;
    }

    public int swings() {
        return isTold() ? election.swingVoters() : NO_SUCH;
    }

    // ---- day by day ----

    public int fear(int field, int day) {
        return isField(field) && isDay(day) ? cellNow(harvest.fear, field, day) : NO_SUCH;
    }

    public int rooks(int field, int day) {
        return isField(field) && isDay(day) ? cellNow(harvest.rooks, field, day) : NO_SUCH;
    }

    public int corn(int field, int day) {
        return isField(field) && isDay(day) ? cellNow(harvest.corn, field, day) : NO_SUCH;
    }

    public int eaten(int field, int day) {
        return isField(field) && isEatingDay(day) ? cellNow(harvest.eaten, field, day) : NO_SUCH;
    }

    public int flies(int field, int day) {
        return isField(field) && isEatingDay(day) ? cellNow(harvest.goal, field, day) : NO_SUCH;
    }

    public int all(int day) {
        return isDay(day) ? sumNow(harvest.corn, day) : NO_SUCH;
    }

    public int black(int day) {
        return isDay(day) ? mostNow(harvest.rooks, day) : NO_SUCH;
    }

    public int richest(int day) {
        return isDay(day) ? mostNow(harvest.corn, day) : NO_SUCH;
    }

    public int shoulder(int field) {
        return isField(field) ? firstZeroNow(harvest.fear, field) : NO_SUCH;
    }

    public int bare(int field) {
        return isField(field) ? firstZeroNow(harvest.corn, field) : NO_SUCH;
    }

    public int kept() {
        if (!isTold()) {
            return NO_SUCH;
        }
        settle();
        int fields = 0;
        for (int field = 0; field < state.told.fields; field++) {
            if (harvest.daysEaten(field) == 0) {
                fields |= 1 << field;
            }
        }
        return fields;
    }

    public int worst() {
        if (!isTold()) {
            return NO_SUCH;
        }
        settle();
        int worst = 0;
        for (int day = 1; day < state.told.days; day++) {
            if (harvest.sumOf(harvest.eaten, day) > harvest.sumOf(harvest.eaten, worst)) {
                worst = day;
            }
        }
        return worst;
    }

    public int tired(int man) {
        if (!isMan(man)) {
            return NO_SUCH;
        }
        int frights = state.told.frights[man];
        int tires = state.told.tires[man];
        if (frights == 0) {
            return 0;
        }
        return tires <= 0 ? NONE : (frights + tires - 1) / tires;
    }

    public int guards() {
        if (!isTold()) {
            return NO_SUCH;
        }
        settle();
        int men = 0;
        for (int man = 0; man < state.told.men; man++) {
            if (now.placeOf(man) != NONE) {
                men |= 1 << man;
            }
        }
        return men;
    }

    public int eats(int field) {
        if (!isField(field)) {
            return NO_SUCH;
        }
        return state.told.corn[field] - cellNow(harvest.corn, field, state.told.days);
    }

    public int quiet(int day) {
        if (!isEatingDay(day)) {
            return NO_SUCH;
        }
        settle();
        int fields = 0;
        for (int field = 0; field < state.told.fields; field++) {
            if (harvest.eaten[field * DAY_CELLS + day] == 0) {
                fields |= 1 << field;
            }
        }
        return fields;
    }

    public int peace() {
        if (!isTold()) {
            return NO_SUCH;
        }
        settle();
        int longest = 0;
        int run = 0;
        for (int day = 0; day < state.told.days; day++) {
            run = harvest.sumOf(harvest.eaten, day) == 0 ? run + 1 : 0;
            longest = Math.max(longest, run);
        }
        return longest;
    }

    public int bold(int field) {
        if (!isField(field)) {
            return NO_SUCH;
        }
        settle();
        return harvest.daysEaten(field);
    }

    public int most(int field) {
        if (!isField(field)) {
            return NO_SUCH;
        }
        settle();
        return harvest.mostRooks(field);
    }

    public int flown(int day) {
        return isEatingDay(day) ? sumNow(harvest.flown, day) : NO_SUCH;
    }

    // ---- what would be best ----

    public int best() {
        if (!isTold()) {
            return NO_SUCH;
        }
        settle();
        search.searchFrom(now);
        return search.corn;
    }

    public int put(int field) {
        if (!isField(field)) {
            return NO_SUCH;
        }
        settle();
        search.searchFrom(now);
        return search.first[field];
    }

    public int ways() {
        if (!isTold()) {
            return NO_SUCH;
        }
        settle();
        search.searchFrom(now);
        return search.rows;
    }

    public int fewest() {
        if (!isTold()) {
            return NO_SUCH;
        }
        settle();
        search.searchFrom(now);
        return search.men;
    }

    public int by(int law) {
        return isTold() && isLaw(law) ? leftByLaw(law) : NO_SUCH;
    }

    public int law() {
        if (!isTold()) {
            return NO_SUCH;
        }
        int law = 0;
        int left = leftByLaw(0);
        for (int other = 1; other < LAWS; other++) {
            int otherLeft = leftByLaw(other);
            if (otherLeft > left) {
                law = other;
                left = otherLeft;
            }
        }
        return law;
    }

    public int speech() {
        if (!isTold()) {
            return NO_SUCH;
        }
        int speech = NONE;
        int left = sumNow(harvest.corn, state.told.days);
        for (int field = 0; field < state.told.fields; field++) {
            for (int day = 0; day < state.told.days; day++) {
                trial.copyFrom(now);
                trial.speeches[field] |= 1 << day;
                int otherLeft = leftOnTrial();
                if (otherLeft > left) {
                    speech = 100 * field + day;
                    left = otherLeft;
                }
            }
        }
        return speech;
    }

    public int gap() {
        if (!isTold()) {
            return NO_SUCH;
        }
        int gap = NONE;
        int left = sumNow(harvest.corn, state.told.days);
        for (int field = 0; field < state.told.fields; field++) {
            for (int other = field + 1; other < state.told.fields; other++) {
                trial.copyFrom(now);
                trial.joined[field] |= 1 << other;
                trial.joined[other] |= 1 << field;
                int otherLeft = leftOnTrial();
                if (otherLeft > left) {
                    gap = 10 * field + other;
                    left = otherLeft;
                }
            }
        }
        return gap;
    }

    // ---- what was seen ----

    public int may(int slot, int field) {
        int wrong = wrongSeen(slot, field);
        if (wrong != 0) {
            return wrong;
        }
        guessAll(slot, field);
        return guesses.fitting;
    }

    public int ask(int slot, int field) {
        int wrong = wrongSeen(slot, field);
        if (wrong != 0) {
            return wrong;
        }
        guessAll(slot, field);
        guesses.findQuestion(state.told.fields, state.told.days);
        return guesses.question;
    }

    public int leaves(int slot, int field) {
        int wrong = wrongSeen(slot, field);
        if (wrong != 0) {
            return wrong;
        }
        guessAll(slot, field);
        guesses.findQuestion(state.told.fields, state.told.days);
        return guesses.left;
    }

    // ---- two fields that speak ----

    public int rests(int field, int other) {
        if (!isField(field) || !isField(other) || field == other) {
            return NO_SUCH;
        }
        settle();
        int pairs = 0;
        for (int x = 0; x < 2; x++) {
            for (int y = 0; y < 2; y++) {
                boolean stays = gainOf(field, other, x, y) >= gainOf(field, other, 1 - x, y);
                boolean otherStays = gainOf(other, field, y, x) >= gainOf(other, field, 1 - y, x);
                if (stays && otherStays) {
                    pairs |= 1 << (x + 2 * y);
                }
            }
        }
        return pairs;
    }

    public int gets(int field, int other, int x, int y) {
        if (!isField(field) || !isField(other) || field == other || !isPair(x) || !isPair(y)) {
            return NO_GAME;
        }
        settle();
        return gainOf(field, other, x, y);
    }

    // ---- wind ----

    public long chance(int field, int day, int n, int what) {
        if (!isField(field) || !isChanceDay(day) || n < 0 || n > MOST_CORN || !isPair(what)) {
            return NO_SUCH;
        }
        settle();
        trial.copyFrom(now);
        int days = day + 1;
        long above = 0;
        for (int wind = 0; wind < 1 << days; wind++) {
            trial.wind = wind;
            tried.passDays(state.told, trial, days);
            if (tried.corn[field * DAY_CELLS + days] >= n) {
                above += windWeight(wind, days);
            }
        }
        return partOf(above, power10(days), what);
    }

    public long mean(int day, int what) {
        if (!isChanceDay(day) || !isPair(what)) {
            return NO_SUCH;
        }
        settle();
        trial.copyFrom(now);
        int days = day + 1;
        long above = 0;
        for (int wind = 0; wind < 1 << days; wind++) {
            trial.wind = wind;
            tried.passDays(state.told, trial, days);
            above += windWeight(wind, days) * tried.sumOf(tried.corn, days);
        }
        return partOf(above, power10(days), what);
    }

    public int drawn(int seed, int what) {
        if (!isTold() || !isSeed(seed) || !isPair(what)) {
            return NO_SUCH;
        }
        if (what == 0) {
            return drawWind(seed);
        }
        drawHarvest(seed);
        return tried.sumOf(tried.corn, state.told.days);
    }

    public int luck(int seed, int n, int field) {
        if (!isField(field) || !isSeed(seed) || n < 1 || n > MOST_HARVESTS) {
            return NO_SUCH;
        }
        int lucky = 0;
        for (int i = 0; i < n; i++) {
            drawHarvest((long) seed + i);
            if (tried.corn[field * DAY_CELLS + state.told.days] > 0) {
                lucky++;
            }
        }
        return lucky;
    }

    // ---- acts ----

    public int puts(int field, int man) {
        if (!isField(field) || (man != NONE && !isMan(man))) {
            return NO_SUCH;
        }
        if (state.acts.size >= MOST_ACTS) {
            return REFUSED;
        }
        settle();
        int stood = now.standing[field];
        state.acts.add(Acts.PUT, field, man);
        forget();
        return stood;
    }

    public int speaks(int field, int day) {
        if (!isField(field) || !isEatingDay(day)) {
            return NO_SUCH;
        }
        if (state.acts.size >= MOST_ACTS) {
            return REFUSED;
        }
        state.acts.add(Acts.SPEECH, field, day);
        forget();
        return cellNow(harvest.fear, field, day);
    }

    public int undo() {
        if (!isTold()) {
            return NO_SUCH;
        }
        if (state.acts.size <= 0) {
            return REFUSED;
        }
        state.acts.size--;
        forget();
        return state.acts.size;
    }

    public int anew() {
        if (!isTold()) {
            return NO_SUCH;
        }
        int acts = state.acts.size;
        state.acts.size = 0;
        forget();
        return acts;
    }

    public int rate(int man, int n) {
        if (!isMan(man) || n < 0 || n > MOST_FRIGHTS) {
            return NO_SUCH;
        }
        if (state.acts.size > 0) {
            return REFUSED;
        }
        int frights = state.told.frights[man];
        state.told.frights[man] = n;
        forget();
        return frights;
    }

    public int count(int what) {
        switch (what) {
            case 0:
                return state.told.days;
            case 1:
                return state.told.law;
            case 2:
                return state.told.odds;
            case 3:
                return state.told.fields;
            case 4:
                return state.told.hedges;
            case 5:
                return state.told.men;
            case 6:
                return state.told.voters;
            case 7:
                return state.acts.size;
            case 8:
                return state.told.lines;
            case 9:
                return tape.length;
            case 10:
                return slots.countRows();
            default:
                return NONE;
        }
    }

    // ---- images ----

    public int image(int k) {
        if (k < 0 || k >= IMAGES) {
            return NO_SUCH;
        }
        images[k].copyFrom(state);
        keptImages |= 1 << k;
        return 0;
    }

    public int back(int k) {
        if (k < 0 || k >= IMAGES) {
            return NO_SUCH;
        }
        if (!hasBit(keptImages, k)) {
            return NOTHING;
        }
        state.copyFrom(images[k]);
        forget();
        return 0;
    }

    // ---- slots ----

    public int row(int slot, int width, int n) {
        if (!Slots.isSlot(slot) || width < 0 || width >= WIDTHS || n > SLOT_SIZE) {
            return NO_SUCH;
        }
        if (n < 0) {
            return BELOW_ZERO;
        }
        slots.renew(slot, width, n);
        return 0;
    }

    public int write(int slot, int i, long v) {
        if (!Slots.isSlot(slot)) {
            return NO_SUCH;
        }
        if (!slots.hasRow(slot)) {
            return NOTHING;
        }
        if (i < 0 || i >= slots.lengths[slot]) {
            return NO_NUMBER;
        }
        slots.set(slot, i, v);
        return 0;
    }

    public int paste(int slot, int i, int to, int k, int n) {
        if (!Slots.isSlot(slot) || !Slots.isSlot(to)) {
            return NO_SUCH;
        }
        if (!slots.hasRow(slot) || !slots.hasRow(to)) {
            return NOTHING;
        }
        if (slots.widths[slot] != slots.widths[to]) {
            return OTHER_WIDTH;
        }
        if (!slots.holds(slot, i, n) || !slots.holds(to, k, n)) {
            return NO_NUMBER;
        }
        System.arraycopy(slots.numbers, slot * SLOT_SIZE + i, slots.numbers, to * SLOT_SIZE + k, n);
        return 0;
    }

    // ---- what there is ----

    private boolean isTold() {
        return state.told.lines > 0;
    }

    private boolean isField(int field) {
        return field >= 0 && field < state.told.fields;
    }

    private boolean isMan(int man) {
        return man >= 0 && man < state.told.men;
    }

    private boolean isVoter(int voter) {
        return voter >= 0 && voter < state.told.voters;
    }

    private boolean isDay(int day) {
        return isTold() && day >= 0 && day <= state.told.days;
    }

    private boolean isEatingDay(int day) {
        return day >= 0 && day < state.told.days;
    }

    private boolean isChanceDay(int day) {
        return isEatingDay(day) && day <= MOST_CHANCE_DAY;
    }

    private boolean isSet(int set) {
        return isTold() && set >= 0 && set < 1 << state.told.men;
    }

    private static boolean isLaw(int law) {
        return law >= 0 && law < LAWS;
    }

    private static boolean isSeed(int seed) {
        return seed >= 0 && seed <= MOST_SEED;
    }

    /** Whether it is one of the two values that a 'what' or a choice has. */
    private static boolean isPair(int what) {
        return what == 0 || what == 1;
    }

    private static boolean hasBit(int bits, int bit) {
        return (bits >> bit & 1) == 1;
    }

    // ---- what is worked out once and kept till something changes ----

    private void forget() {
        settled = false;
        search.known = false;
        plainKnown = false;
    }

    private void settle() {
        if (settled) {
            return;
        }
        now.begin(state.told);
        election.fillFields(now.standing, state.told.law);
        state.acts.playOn(now, true);
        harvest.passDays(state.told, now, state.told.days);
        settled = true;
    }

    private int cellNow(int[] cells, int field, int day) {
        settle();
        return cells[field * DAY_CELLS + day];
    }

    private int sumNow(int[] cells, int day) {
        settle();
        return harvest.sumOf(cells, day);
    }

    private int mostNow(int[] cells, int day) {
        settle();
        return harvest.fieldOfMost(cells, day);
    }

    private int firstZeroNow(int[] cells, int field) {
        settle();
        return harvest.firstZero(cells, field);
    }

    private void learnPlain() {
        if (plainKnown) {
            return;
        }
        plainVoters = 0;
        for (int voter = 0; voter < state.told.voters; voter++) {
            if (election.isGainer(voter)) {
                plainVoters |= 1 << voter;
            }
        }
        plainKnown = true;
    }

    // ---- trials ----

    private int leftOnTrial() {
        tried.passDays(state.told, trial, state.told.days);
        return tried.sumOf(tried.corn, state.told.days);
    }

    private int leftByLaw(int law) {
        trial.begin(state.told);
        election.fillFields(trial.standing, law);
        state.acts.playOn(trial, false);
        return leftOnTrial();
    }

    private int gainOf(int field, int other, int x, int y) {
        int everyDay = (1 << state.told.days) - 1;
        trial.copyFrom(now);
        if (x == 1) {
            trial.speeches[field] |= everyDay;
        }
        if (y == 1) {
            trial.speeches[other] |= everyDay;
        }
        tried.passDays(state.told, trial, state.told.days);
        return tried.corn[field * DAY_CELLS + state.told.days] - SPEECH_PRICE * x;
    }

    /** -2 or -6 if nothing can be seen by the SLOT, else 0. */
    private int wrongSeen(int slot, int field) {
        if (!Slots.isSlot(slot) || !isField(field)) {
            return NO_SUCH;
        }
        if (!slots.hasRow(slot)) {
            return NOTHING;
        }
        int length = slots.lengths[slot];
        if (length % SEEN_NUMBERS != 0) {
            return NO_SUCH;
        }
        for (int i = 0; i < length; i += SEEN_NUMBERS) {
            if (!isBetween(slots.at(slot, i), state.told.fields - 1)
                    || !isBetween(slots.at(slot, i + 1), state.told.days)
                    || !isBetween(slots.at(slot, i + 2), MOST_SEEN_ROOKS)) {
                return NO_SUCH;
            }
        }
        return 0;
    }

    private static boolean isBetween(long number, int high) {
        return number >= 0 && number <= high;
    }

    private void guessAll(int slot, int field) {
        settle();
        guesses.fitting = 0;
        for (int man = NONE; man < state.told.men; man++) {
            trial.copyFrom(now);
            trial.placeMan(field, man);
            tried.passDays(state.told, trial, state.told.days);
            if (isAsSeen(slot)) {
                guesses.keep(man == NONE ? NOBODY_BIT : man, tried.rooks);
            }
        }
    }

    private boolean isAsSeen(int slot) {
        for (int i = 0; i < slots.lengths[slot]; i += SEEN_NUMBERS) {
            int cell = (int) slots.at(slot, i) * DAY_CELLS + (int) slots.at(slot, i + 1);
            if (tried.rooks[cell] != slots.at(slot, i + 2)) {
                return false;
            }
        }
        return true;
    }

    // ---- chances ----

    /** How many of the 10 to the power of days equal cases have just this WIND. */
    private long windWeight(int wind, int days) {
        long weight = 1;
        for (int day = 0; day < days; day++) {
            weight *= hasBit(wind, day) ? state.told.odds : 10 - state.told.odds;
        }
        return weight;
    }

    private static long power10(int times) {
        long power = 1;
        for (int i = 0; i < times; i++) {
            power *= 10;
        }
        return power;
    }

    private static long partOf(long above, long below, int what) {
        long divisor = commonDivisor(above, below);
        if (divisor <= 0) {
            return 0;
        }
        return (what == 0 ? above : below) / divisor;
    }

    private static long commonDivisor(long a, long b) {
        // Euclid's steps on longs are fewer than a hundred
        for (int i = 0; i < 100 && b != 0; i++) {
            long rest = a % b;
            a = b;
            b = rest;
        }
        return a;
    }

    private int drawWind(long seed) {
        long x = seed;
        int wind = 0;
        for (int day = 0; day < state.told.days; day++) {
            x = (1103515245L * x + 12345L) % 2147483648L;
            if (x / 65536L % 10L < state.told.odds) {
                wind |= 1 << day;
            }
        }
        return wind;
    }

    private void drawHarvest(long seed) {
        settle();
        trial.copyFrom(now);
        trial.wind = drawWind(seed);
        tried.passDays(state.told, trial, state.told.days);
    }

    /** The bytes that were fed, and the TOKEN at which a reader of them is. */
    private static final class Tape {
        final byte[] bytes = new byte[MOST_BYTES];
        int length;
        int kind;
        int start;
        int number;
        private int at;

        void append(int value) {
            for (int shift = 24; shift >= 0 && length < MOST_BYTES; shift -= 8) {
                bytes[length] = (byte) (value >>> shift);
                length++;
            }
        }

        void rewind() {
            at = 0;
            step();
        }

        void step() {
            while (at < length && isBlank(bytes[at])) {
                at++;
            }
            start = at;
            if (at >= length) {
                kind = TAPE_END;
            } else if (isLetter(bytes[at])) {
                kind = WORD;
                while (at < length && isLetter(bytes[at])) {
                    at++;
                }
            } else if (isDigit(bytes[at])) {
                kind = NUMBER;
                number = 0;
                while (at < length && isDigit(bytes[at])) {
                    number = Math.min(HUGE, number * 10 + bytes[at] - '0');
                    at++;
                }
            } else {
                kind = bytes[at] == ';' ? SIGN : OTHER;
                at++;
            }
        }

        boolean isAtWord(String word) {
            if (kind != WORD || at - start != word.length()) {
                return false;
            }
            for (int i = 0; i < word.length(); i++) {
                if (bytes[start + i] != word.charAt(i)) {
                    return false;
                }
            }
            return true;
        }

        private static boolean isBlank(byte sign) {
            return sign == 32 || sign == 10;
        }

        private static boolean isLetter(byte sign) {
            return sign >= 'a' && sign <= 'z';
        }

        private static boolean isDigit(byte sign) {
            return sign >= '0' && sign <= '9';
        }
    }

    /** Reads the TAPE from left to right, so that the first FAULT it meets is the first by its place. */
    private static final class Reader {
        final Hundred draft = new Hundred();
        int fault;
        int place = NONE;
        private final Tape tape;

        Reader(Tape tape) {
            this.tape = tape;
        }

        void begin() {
            draft.clear();
            fault = 0;
            place = NONE;
            tape.rewind();
        }

        boolean hasMore() {
            return fault == 0 && tape.kind != TAPE_END;
        }

        void readLine() {
            if (draft.lines == 0) {
                readHead();
            } else if (tape.isAtWord("field")) {
                readField();
            } else if (tape.isAtWord("hedge")) {
                readHedge();
            } else if (tape.isAtWord("man")) {
                readMan();
            } else if (tape.isAtWord("voter")) {
                readVoter();
            } else {
                blame(BAD_TOKEN);
            }
            takeSign();
        }

        private void readHead() {
            takeWord("hundred");
            draft.days = takeNamed("days", 1, MOST_DAYS);
            draft.law = takeNamed("law", 0, LAWS - 1);
            draft.odds = takeNamed("odds", 0, 10);
        }

        private void readField() {
            if (draft.fields >= MOST_FIELDS) {
                blame(TOO_MANY);
                return;
            }
            tape.step();
            int corn = takeNamed("corn", 0, MOST_CORN);
            int rooks = takeNamed("rooks", 0, 40);
            if (fault == 0) {
                draft.addField(corn, rooks);
            }
        }

        private void readHedge() {
            if (draft.hedges >= MOST_HEDGES) {
                blame(TOO_MANY);
                return;
            }
            tape.step();
            int field = takeNumber(0, draft.fields - 1, 0);
            int other = takeNumber(0, draft.fields - 1, 1 << field);
            if (fault == 0) {
                draft.addHedge(field, other);
            }
        }

        private void readMan() {
            if (draft.voters > 0) {
                blame(BAD_TOKEN);
                return;
            }
            if (draft.men >= MOST_MEN) {
                blame(TOO_MANY);
                return;
            }
            tape.step();
            int frights = takeNamed("frights", 0, MOST_FRIGHTS);
            int tires = takeNamed("tires", 0, 9);
            if (fault == 0) {
                draft.addMan(frights, tires);
            }
        }

        private void readVoter() {
            if (draft.voters >= MOST_VOTERS) {
                blame(TOO_MANY);
                return;
            }
            tape.step();
            int hats = takeNamed("hats", 1, 9);
            if (fault == 0) {
                draft.addVoter(hats);
            }
            int told = 0;
            // a sixth number is like one of five, so it is a FAULT and ends the ROW
            for (int i = 0; i <= MOST_MEN && fault == 0 && tape.kind == NUMBER; i++) {
                int man = takeNumber(0, draft.men - 1, told);
                if (fault == 0) {
                    draft.addWant(man);
                    told |= 1 << man;
                }
            }
        }

        private void takeWord(String word) {
            if (fault != 0) {
                return;
            }
            if (!tape.isAtWord(word)) {
                blame(BAD_TOKEN);
                return;
            }
            tape.step();
        }

        private void takeSign() {
            if (fault != 0) {
                return;
            }
            if (tape.kind != SIGN) {
                blame(BAD_TOKEN);
                return;
            }
            tape.step();
            draft.lines++;
        }

        private int takeNamed(String word, int low, int high) {
            takeWord(word);
            return takeNumber(low, high, 0);
        }

        /** The number there, within its bounds and none of those told as bits; 0 behind a FAULT. */
        private int takeNumber(int low, int high, int told) {
            if (fault != 0) {
                return 0;
            }
            if (tape.kind != NUMBER) {
                blame(BAD_TOKEN);
                return 0;
            }
            int number = tape.number;
            if (number < low || number > high || (told != 0 && hasBit(told, number))) {
                blame(BAD_NUMBER);
                return 0;
            }
            tape.step();
            return number;
        }

        private void blame(int kind) {
            fault = kind;
            place = tape.start;
        }
    }

    /** A HUNDRED as told (a man's frights may have been rated anew); without LINES there is none. */
    private static final class Hundred {
        int lines;
        int days;
        int law;
        int odds;
        int fields;
        int hedges;
        int men;
        int voters;
        final int[] corn = new int[MOST_FIELDS];
        final int[] rooks = new int[MOST_FIELDS];
        final int[] joined = new int[MOST_FIELDS];
        final int[] frights = new int[MOST_MEN];
        final int[] tires = new int[MOST_MEN];
        final int[] hats = new int[MOST_VOTERS];
        final int[] rowLength = new int[MOST_VOTERS];
        final int[] rows = new int[MOST_VOTERS * MOST_MEN];
        /** For each VOTER and man the MEN ahead of him in the ROW, as bits, or NOT_IN_ROW: elections ask nothing else. */
        final int[] ahead = new int[MOST_VOTERS * MOST_MEN];

        void clear() {
            lines = 0;
            days = 0;
            law = 0;
            odds = 0;
            fields = 0;
            hedges = 0;
            men = 0;
            voters = 0;
        }

        void addField(int cornThere, int rooksThere) {
            corn[fields] = cornThere;
            rooks[fields] = rooksThere;
            joined[fields] = 0;
            fields++;
        }

        void addHedge(int field, int other) {
            joined[field] |= 1 << other;
            joined[other] |= 1 << field;
            hedges++;
        }

        void addMan(int hisFrights, int hisTires) {
            frights[men] = hisFrights;
            tires[men] = hisTires;
            men++;
        }

        void addVoter(int hisHats) {
            hats[voters] = hisHats;
            rowLength[voters] = 0;
            for (int man = 0; man < MOST_MEN; man++) {
                ahead[voters * MOST_MEN + man] = NOT_IN_ROW;
            }
            voters++;
        }

        /** The latest VOTER wants a man behind those of his ROW. */
        void addWant(int man) {
            int voter = voters - 1;
            int places = rowLength[voter];
            int before = 0;
            for (int i = 0; i < places; i++) {
                before |= 1 << rows[voter * MOST_MEN + i];
            }
            rows[voter * MOST_MEN + places] = man;
            ahead[voter * MOST_MEN + man] = before;
            rowLength[voter] = places + 1;
        }

        void copyFrom(Hundred other) {
            lines = other.lines;
            days = other.days;
            law = other.law;
            odds = other.odds;
            fields = other.fields;
            hedges = other.hedges;
            men = other.men;
            voters = other.voters;
            System.arraycopy(other.corn, 0, corn, 0, MOST_FIELDS);
            System.arraycopy(other.rooks, 0, rooks, 0, MOST_FIELDS);
            System.arraycopy(other.joined, 0, joined, 0, MOST_FIELDS);
            System.arraycopy(other.frights, 0, frights, 0, MOST_MEN);
            System.arraycopy(other.tires, 0, tires, 0, MOST_MEN);
            System.arraycopy(other.hats, 0, hats, 0, MOST_VOTERS);
            System.arraycopy(other.rowLength, 0, rowLength, 0, MOST_VOTERS);
            System.arraycopy(other.rows, 0, rows, 0, MOST_VOTERS * MOST_MEN);
            System.arraycopy(other.ahead, 0, ahead, 0, MOST_VOTERS * MOST_MEN);
        }
    }

    /** What was done, so that it can be taken back. */
    private static final class Acts {
        static final int PUT = 0;
        static final int SPEECH = 1;

        int size;
        private final int[] kinds = new int[MOST_ACTS];
        private final int[] fields = new int[MOST_ACTS];
        /** A man (or NONE) who is put, or the DAY of a SPEECH. */
        private final int[] values = new int[MOST_ACTS];

        void add(int kind, int field, int value) {
            if (size >= MOST_ACTS) {
                return;
            }
            kinds[size] = kind;
            fields[size] = field;
            values[size] = value;
            size++;
        }

        void playOn(Scene scene, boolean withPuts) {
            for (int i = 0; i < size; i++) {
                if (kinds[i] == SPEECH) {
                    scene.speeches[fields[i]] |= 1 << values[i];
                } else if (withPuts) {
                    scene.placeMan(fields[i], values[i]);
                }
            }
        }

        void copyFrom(Acts other) {
            size = other.size;
            System.arraycopy(other.kinds, 0, kinds, 0, MOST_ACTS);
            System.arraycopy(other.fields, 0, fields, 0, MOST_ACTS);
            System.arraycopy(other.values, 0, values, 0, MOST_ACTS);
        }
    }

    /** What an IMAGE keeps. */
    private static final class State {
        final Hundred told = new Hundred();
        final Acts acts = new Acts();

        void copyFrom(State other) {
            told.copyFrom(other.told);
            acts.copyFrom(other.acts);
        }
    }

    /** Who stands where, which speeches are given, which FIELDS are joined, when there is WIND. */
    private static final class Scene {
        final int[] standing = new int[MOST_FIELDS];
        /** DAYS as bits. */
        final int[] speeches = new int[MOST_FIELDS];
        final int[] joined = new int[MOST_FIELDS];
        /** DAYS as bits. */
        int wind;

        /** As told, with nobody in any FIELD. */
        void begin(Hundred told) {
            for (int field = 0; field < MOST_FIELDS; field++) {
                standing[field] = NONE;
                speeches[field] = 0;
            }
            System.arraycopy(told.joined, 0, joined, 0, MOST_FIELDS);
            wind = 0;
        }

        void copyFrom(Scene other) {
            System.arraycopy(other.standing, 0, standing, 0, MOST_FIELDS);
            System.arraycopy(other.speeches, 0, speeches, 0, MOST_FIELDS);
            System.arraycopy(other.joined, 0, joined, 0, MOST_FIELDS);
            wind = other.wind;
        }

        int placeOf(int man) {
            for (int field = 0; field < MOST_FIELDS; field++) {
                if (standing[field] == man) {
                    return field;
                }
            }
            return NONE;
        }

        void placeMan(int field, int man) {
            int stood = man == NONE ? NONE : placeOf(man);
            if (stood != NONE) {
                standing[stood] = NONE;
            }
            standing[field] = man;
        }
    }

    /** How VOTERS vote; 'away' are VOTERS, as bits, who do not. */
    private static final class Election {
        private final Hundred told;
        /** The ROWS with one of them told otherwise. */
        private final int[] feigned = new int[MOST_VOTERS * MOST_MEN];

        Election(Hundred told) {
            this.told = told;
        }

        int hatsFor(int[] aheads, int set, int law, int man, int away) {
            int hats = 0;
            int others = Integer.bitCount(set) - 1;
            int places = law == 3 ? 2 : 1;
            for (int voter = 0; voter < told.voters; voter++) {
                int ahead = aheads[voter * MOST_MEN + man];
                if (ahead != NOT_IN_ROW && (away >> voter & 1) == 0) {
                    int before = Integer.bitCount(ahead & set);
                    int times = before < places ? 1 : 0;
                    hats += told.hats[voter] * (law == 1 ? others - before : times);
                }
            }
            return hats;
        }

        int winner(int[] ahead, int set, int law, int away) {
            int left = set;
            if (law == 2) {
                for (int i = 0; i < MOST_MEN && Integer.bitCount(left) > 1; i++) {
                    left &= ~(1 << lastOfFewest(ahead, left, away));
                }
            }
            return firstOfMost(ahead, left, law, away);
        }

        private int firstOfMost(int[] ahead, int set, int law, int away) {
            int first = NONE;
            int most = -1;
            for (int man = 0; man < told.men; man++) {
                if (hasBit(set, man)) {
                    int hats = hatsFor(ahead, set, law, man, away);
                    if (hats > most) {
                        first = man;
                        most = hats;
                    }
                }
            }
            return first;
        }

        private int lastOfFewest(int[] ahead, int set, int away) {
            int last = 0;
            int fewest = HUGE;
            for (int man = 0; man < told.men; man++) {
                if (hasBit(set, man)) {
                    int hats = hatsFor(ahead, set, 0, man, away);
                    if (hats <= fewest) {
                        last = man;
                        fewest = hats;
                    }
                }
            }
            return last;
        }

        private int allMen() {
            return (1 << told.men) - 1;
        }

        private int winnerOfAll(int away) {
            return winner(told.ahead, allMen(), told.law, away);
        }

        void fillFields(int[] standing, int law) {
            int left = allMen();
            for (int field = 0; field < told.fields; field++) {
                int man = winner(told.ahead, left, law, 0);
                standing[field] = man;
                if (man != NONE) {
                    left &= ~(1 << man);
                }
            }
        }

        private boolean isWantedMore(int voter, int man, int other) {
            int before = told.ahead[voter * MOST_MEN + man];
            return man != other && before != NOT_IN_ROW && !hasBit(before, other);
        }

        int hatsOver(int man, int other) {
            int hats = 0;
            for (int voter = 0; voter < told.voters; voter++) {
                if (isWantedMore(voter, man, other)) {
                    hats += told.hats[voter];
                }
            }
            return hats;
        }

        private boolean isOver(int man, int other) {
            return hatsOver(man, other) > hatsOver(other, man);
        }

        int manOverAll() {
            for (int man = 0; man < told.men; man++) {
                int beaten = 0;
                for (int other = 0; other < told.men; other++) {
                    if (other != man && isOver(man, other)) {
                        beaten++;
                    }
                }
                if (beaten == told.men - 1) {
                    return man;
                }
            }
            return NONE;
        }

        int countRings() {
            int rings = 0;
            for (int a = 0; a < told.men; a++) {
                for (int b = a + 1; b < told.men; b++) {
                    for (int c = b + 1; c < told.men; c++) {
                        if (isRing(a, b, c) || isRing(a, c, b)) {
                            rings++;
                        }
                    }
                }
            }
            return rings;
        }

        private boolean isRing(int a, int b, int c) {
            return isOver(a, b) && isOver(b, c) && isOver(c, a);
        }

        private int hatsOf(int voters) {
            int hats = 0;
            for (int voter = 0; voter < told.voters; voter++) {
                if (hasBit(voters, voter)) {
                    hats += told.hats[voter];
                }
            }
            return hats;
        }

        int fewestAway(int man) {
            int fewest = NONE;
            for (int away = 0; away < 1 << told.voters; away++) {
                int hats = hatsOf(away);
                if ((fewest == NONE || hats < fewest) && winnerOfAll(away) == man) {
                    fewest = hats;
                }
            }
            return fewest;
        }

        boolean isGainer(int voter) {
            System.arraycopy(told.ahead, 0, feigned, 0, MOST_VOTERS * MOST_MEN);
            for (int man = 0; man < MOST_MEN; man++) {
                feigned[voter * MOST_MEN + man] = NOT_IN_ROW;
            }
            return gainsBehind(voter, winnerOfAll(0), 0, 0);
        }

        /** Whether the feigned ROW so far, with the MEN taken as bits, or one that goes on from it gains. */
        private boolean gainsBehind(int voter, int present, int taken, int depth) {
            int elected = winner(feigned, allMen(), told.law, 0);
            if (elected == NONE || present == NONE) {
                return false;
            }
            if (isWantedMore(voter, elected, present)) {
                return true;
            }
            if (depth >= MOST_MEN) {
                return false;
            }
            for (int man = 0; man < told.men; man++) {
                if (!hasBit(taken, man)) {
                    feigned[voter * MOST_MEN + man] = taken;
                    if (gainsBehind(voter, present, taken | 1 << man, depth + 1)) {
                        return true;
                    }
                    feigned[voter * MOST_MEN + man] = NOT_IN_ROW;
                }
            }
            return false;
        }

        /** Of all orders of the VOTERS, those in which this one decides. */
        int ordersDecided(int voter) {
            int everyone = (1 << told.voters) - 1;
            int half = hatsOf(everyone);
            int orders = 0;
            for (int come = 0; come <= everyone; come++) {
                int hats = 2 * hatsOf(come);
                if (!hasBit(come, voter) && hats <= half && hats + 2 * told.hats[voter] > half) {
                    int before = Integer.bitCount(come);
                    orders += ORDERS[before] * ORDERS[told.voters - 1 - before];
                }
            }
            return orders;
        }

        int hatsFirst(int man) {
            int hats = 0;
            for (int voter = 0; voter < told.voters; voter++) {
                if (told.ahead[voter * MOST_MEN + man] == 0) {
                    hats += told.hats[voter];
                }
            }
            return hats;
        }

        int hatsWithout(int man) {
            int hats = 0;
            for (int voter = 0; voter < told.voters; voter++) {
                if (told.ahead[voter * MOST_MEN + man] == NOT_IN_ROW) {
                    hats += told.hats[voter];
                }
            }
            return hats;
        }

        int swingVoters() {
            int swing = 0;
            int present = winnerOfAll(0);
            for (int voter = 0; voter < told.voters; voter++) {
                if (winnerOfAll(1 << voter) != present) {
                    swing |= 1 << voter;
                }
            }
            return swing;
        }
    }

    /** What comes of a Scene, DAY by DAY; the cell of a FIELD and a DAY is field * DAY_CELLS + day. */
    private static final class Harvest {
        final int[] fear = new int[CELLS];
        final int[] rooks = new int[CELLS];
        final int[] corn = new int[CELLS];
        final int[] eaten = new int[CELLS];
        final int[] flown = new int[CELLS];
        final int[] goal = new int[CELLS];
        /** DAYS since the last SPEECH in a FIELD, or since DAY 0, on the DAY that is worked out. */
        private final int[] since = new int[MOST_FIELDS];
        private int fields;
        private int lastDay;

        /** From DAY 0 to so many DAYS behind it; cells beyond them are not to be read. */
        void passDays(Hundred told, Scene scene, int days) {
            fields = told.fields;
            lastDay = days;
            for (int field = 0; field < fields; field++) {
                rooks[field * DAY_CELLS] = told.rooks[field];
                corn[field * DAY_CELLS] = told.corn[field];
            }
            for (int day = 0; day < days; day++) {
                frighten(told, scene, day);
                beginNextDay(day);
                if (!hasBit(scene.wind, day)) {
                    eatAndFly(scene, day);
                }
            }
            frighten(told, scene, days);
        }

        private void frighten(Hundred told, Scene scene, int day) {
            for (int field = 0; field < fields; field++) {
                boolean fresh = day == 0 || hasBit(scene.speeches[field], day);
                since[field] = fresh ? 0 : since[field] + 1;
                int man = scene.standing[field];
                int frights = man == NONE ? 0 : told.frights[man] - told.tires[man] * since[field];
                fear[field * DAY_CELLS + day] = Math.max(0, frights);
            }
        }

        private void beginNextDay(int day) {
            for (int field = 0; field < fields; field++) {
                int cell = field * DAY_CELLS + day;
                rooks[cell + 1] = rooks[cell];
                corn[cell + 1] = corn[cell];
                eaten[cell] = 0;
                flown[cell] = 0;
                goal[cell] = NONE;
            }
        }

        private void eatAndFly(Scene scene, int day) {
            for (int field = 0; field < fields; field++) {
                int cell = field * DAY_CELLS + day;
                int shy = Math.min(rooks[cell], fear[cell]);
                eaten[cell] = Math.min(rooks[cell] - shy, corn[cell]);
                corn[cell + 1] -= eaten[cell];
                int to = shy > 0 ? leastFeared(scene.joined[field], day) : NONE;
                if (to != NONE) {
                    goal[cell] = to;
                    flown[cell] = shy;
                    rooks[cell + 1] -= shy;
                    rooks[to * DAY_CELLS + day + 1] += shy;
                }
            }
        }

        private int leastFeared(int joined, int day) {
            int least = NONE;
            for (int field = 0; field < fields; field++) {
                if ((joined >> field & 1) == 1
                        && (least == NONE || fear[field * DAY_CELLS + day] < fear[least * DAY_CELLS + day])) {
                    least = field;
                }
            }
            return least;
        }

        int sumOf(int[] cells, int day) {
            int sum = 0;
            for (int field = 0; field < fields; field++) {
                sum += cells[field * DAY_CELLS + day];
            }
            return sum;
        }

        int fieldOfMost(int[] cells, int day) {
            int most = NONE;
            for (int field = 0; field < fields; field++) {
                if (most == NONE || cells[field * DAY_CELLS + day] > cells[most * DAY_CELLS + day]) {
                    most = field;
                }
            }
            return most;
        }

        int firstZero(int[] cells, int field) {
            for (int day = 0; day <= lastDay; day++) {
                if (cells[field * DAY_CELLS + day] == 0) {
                    return day;
                }
            }
            return NONE;
        }

        int daysEaten(int field) {
            int days = 0;
            for (int day = 0; day < lastDay; day++) {
                if (eaten[field * DAY_CELLS + day] > 0) {
                    days++;
                }
            }
            return days;
        }

        int mostRooks(int field) {
            int most = 0;
            for (int day = 0; day <= lastDay; day++) {
                most = Math.max(most, rooks[field * DAY_CELLS + day]);
            }
            return most;
        }
    }

    /** Tries every row of MEN, nobody twice, in the order of rows, nobody first. */
    private static final class PutSearch {
        final int[] first = new int[MOST_FIELDS];
        int corn;
        int rows;
        int men;
        /** Whether they are worked out for what is so now. */
        boolean known;
        private final Hundred told;
        private final Scene trial;
        private final Harvest tried;

        PutSearch(Hundred told, Scene trial, Harvest tried) {
            this.told = told;
            this.trial = trial;
            this.tried = tried;
        }

        void searchFrom(Scene now) {
            if (known) {
                return;
            }
            trial.copyFrom(now);
            corn = NONE;
            rows = 0;
            men = 0;
            fillFrom(0, 0);
            known = true;
        }

        private void fillFrom(int field, int taken) {
            if (field >= told.fields || field >= MOST_FIELDS) {
                weighRow(Integer.bitCount(taken));
                return;
            }
            trial.standing[field] = NONE;
            fillFrom(field + 1, taken);
            for (int man = 0; man < told.men; man++) {
                if (!hasBit(taken, man)) {
                    trial.standing[field] = man;
                    fillFrom(field + 1, taken | 1 << man);
                }
            }
        }

        private void weighRow(int menPut) {
            tried.passDays(told, trial, told.days);
            int left = tried.sumOf(tried.corn, told.days);
            if (left > corn) {
                corn = left;
                rows = 1;
                men = menPut;
                System.arraycopy(trial.standing, 0, first, 0, MOST_FIELDS);
            } else if (left == corn) {
                rows++;
                men = Math.min(men, menPut);
            }
        }
    }

    /** Who may stand in a FIELD by what was seen, and the rooks that there would be with each. */
    private static final class Guesses {
        /** MEN as bits, and nobody. */
        int fitting;
        int question;
        int left;
        private final int[] rooks = new int[GUESSES * CELLS];

        void keep(int guess, int[] cells) {
            fitting |= 1 << guess;
            System.arraycopy(cells, 0, rooks, guess * CELLS, CELLS);
        }

        void findQuestion(int fields, int days) {
            question = NONE;
            left = Integer.bitCount(fitting);
            for (int field = 0; field < fields; field++) {
                for (int day = 0; day <= days; day++) {
                    int worst = mostAlike(field * DAY_CELLS + day);
                    if (worst < left) {
                        question = 100 * field + day;
                        left = worst;
                    }
                }
            }
        }

        private int mostAlike(int cell) {
            int most = 0;
            for (int guess = 0; guess < GUESSES; guess++) {
                if (hasBit(fitting, guess)) {
                    most = Math.max(most, countAlike(cell, rooks[guess * CELLS + cell]));
                }
            }
            return most;
        }

        private int countAlike(int cell, int rooksThere) {
            int alike = 0;
            for (int guess = 0; guess < GUESSES; guess++) {
                if (hasBit(fitting, guess) && rooks[guess * CELLS + cell] == rooksThere) {
                    alike++;
                }
            }
            return alike;
        }
    }

    /** Rows of numbers; each stands sign-extended in a long, as Java's byte, short, int or long would have it. */
    private static final class Slots {
        final long[] numbers = new long[SLOTS * SLOT_SIZE];
        final int[] widths = new int[SLOTS];
        final int[] lengths = {NONE, NONE, NONE, NONE};

        static boolean isSlot(int slot) {
            return slot >= 0 && slot < SLOTS;
        }

        boolean hasRow(int slot) {
            return lengths[slot] != NONE;
        }

        int countRows() {
            int rows = 0;
            for (int slot = 0; slot < SLOTS; slot++) {
                if (hasRow(slot)) {
                    rows++;
                }
            }
            return rows;
        }

        void renew(int slot, int width, int length) {
            widths[slot] = width;
            lengths[slot] = length;
            for (int i = 0; i < length; i++) {
                numbers[slot * SLOT_SIZE + i] = 0;
            }
        }

        long at(int slot, int i) {
            return numbers[slot * SLOT_SIZE + i];
        }

        void set(int slot, int i, long value) {
            numbers[slot * SLOT_SIZE + i] = cut(value, widths[slot]);
        }

        private static long cut(long value, int width) {
            switch (width) {
                case 0:
                    return (byte) value;
                case 1:
                    return (short) value;
                case 2:
                    return (int) value;
                default:
                    return value;
            }
        }

        boolean holds(int slot, int from, int n) {
            return from >= 0 && n >= 0 && (long) from + n <= lengths[slot];
        }
    }
}
