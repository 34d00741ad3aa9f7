/**
 * Cabbages in rows and their opinions: a garden is told as a text, its heads pass views on hour by
 * hour, and questions are asked of what comes of it. The promises are told in the project's
 * document; README.md says how the class is used.
 *
 * <p>All arrays are made in the constructors and used again, because the calls of a run share one
 * small room: no call makes an object.
 */
public final class CabbageViews {
    public static final int NONE = -1;

    private static final int NO_SUCH = -2;
    private static final int TOO_MANY = -3;
    private static final int BELOW_ZERO = -3;
    private static final int FAULTY = -4;
    private static final int REFUSED = -5;
    private static final int NOTHING = -6;
    private static final int BEYOND = -7;
    private static final int OTHER_WIDTH = -8;
    private static final int NO_VALUE = -1000;

    private static final int MOST_TAPE = 600;
    private static final int MOST_HOURS = 16;
    private static final int LATEST_TOLD = 15;
    private static final int LAWS = 4;
    private static final int MOST_ODDS = 10;
    private static final int MOST_ROWS = 4;
    private static final int MOST_IN_ROW = 8;
    private static final int MOST_HEADS = 12;
    private static final int MOST_HARD = 4;
    private static final int MOST_SAYINGS = 8;
    private static final int MOST_SLUGS = 4;
    private static final int MOST_ACTS = 30;
    private static final int MOST_SHARING = 8;
    private static final int LATEST_WET = 7;
    private static final int MOST_SEED = 2000000000;
    private static final int MOST_SUMMERS = 20;
    private static final int IMAGES = 3;
    private static final int SLOTS = 4;
    private static final int MOST_NUMBERS = 60;
    private static final int WIDTHS = 4;

    /** A state of the views is one int: who holds 1 in the lower half, who holds 2 in the upper. */
    private static final int HALF = 16;
    private static final int LOWER = 0xFFFF;

    private final Reader reader = new Reader();
    private final Garden draft = new Garden();
    private final Garden garden = new Garden();
    private final Plan plan = new Plan();
    private final Course course = new Course(garden, plan);
    private final Course trial = new Course(garden, plan);
    private final Story story = new Story(garden, plan, course);
    private final Telling telling = new Telling(garden, plan, trial);
    private final Contest contest = new Contest(garden, trial);
    private final Slots slots = new Slots();
    private final Seen seen = new Seen(garden, slots, trial);
    private final Weather weather = new Weather(garden, course, trial);
    private final Garden[] images = new Garden[IMAGES];
    private final boolean[] kept = new boolean[IMAGES];

    public CabbageViews() {
        for (int k = 0; k < IMAGES; k++) {
            images[k] = new Garden();
        }
        retell();
    }

    // ---- the tape and the garden

    public int feed(int a, int b, int c, int d, int e) {
        if (!reader.hasRoom()) {
            return NONE;
        }
        reader.append(a);
        reader.append(b);
        reader.append(c);
        reader.append(d);
        reader.append(e);
        return reader.size;
    }

    public int end(int n) {
        if (n < 0 || n > reader.size) {
            return NONE;
        }
        reader.size = n;
        return n;
    }

    public int garden() {
        if (!reader.parse(draft)) {
            return FAULTY;
        }
        reader.size = 0;
        garden.copy(draft);
        retell();
        return garden.lines;
    }

    public int fault(int what) {
        if (what == 0) {
            return reader.fault;
        }
        return what == 1 ? reader.place : NONE;
    }

    public int head(int head, int what) {
        if (!isHead(head)) {
            return NO_SUCH;
        }
        switch (what) {
            case 0:
                return garden.hard[head];
            case 1:
                return garden.holds[head];
            case 2:
                return garden.rowOf[head];
            case 3:
                return garden.placeOf[head];
            default:
                return NO_SUCH;
        }
    }

    public int near(int head) {
        return isHead(head) ? garden.nearTo[head] : NO_SUCH;
    }

    public int heads(int row) {
        return isRow(row) ? garden.inRow[row] : NO_SUCH;
    }

    // ---- who holds which view, hour by hour

    public int view(int head, int hour) {
        return isHead(head) && isHour(hour) ? course.viewAt(head, hour) : NO_SUCH;
    }

    public int holding(int view, int hour) {
        return isAnyView(view) && isHour(hour) ? story.holdersAt(view, hour) : NO_SUCH;
    }

    public int eaten(int hour) {
        return isHour(hour) ? plan.gone[hour] : NO_SUCH;
    }

    public int turned(int hour) {
        return isHour(hour) ? story.turnedAt(hour) : NO_SUCH;
    }

    public int sways(int head) {
        return isHead(head) ? story.changesOf(head) : NO_SUCH;
    }

    public int when(int head, int view) {
        return isHead(head) && isView(view) ? story.firstHour(1 << head, view) : NO_SUCH;
    }

    public int often(int head, int view) {
        return isHead(head) && isView(view) ? story.hoursOf(head, view) : NO_SUCH;
    }

    public int heart(int head) {
        return isHead(head) ? story.firstView(head) : NO_SUCH;
    }

    public int fickle() {
        return isGarden() ? story.mostFickle() : NO_SUCH;
    }

    public int agree() {
        return isGarden() ? story.firstAccord() : NO_SUCH;
    }

    public int still() {
        return isGarden() ? story.stillFrom() : NO_SUCH;
    }

    public int quiet() {
        return isGarden() ? story.longestQuiet() : NO_SUCH;
    }

    public int settles() {
        if (!isGarden()) {
            return NO_SUCH;
        }
        int apart = story.circleLength();
        return story.circleEntry(apart) + apart;
    }

    public int round() {
        return isGarden() ? story.circleLength() : NO_SUCH;
    }

    public int mind(int row, int hour) {
        return isRow(row) && isHour(hour) ? story.mindOf(row, hour) : NO_SUCH;
    }

    public int rows(int view, int hour) {
        return isView(view) && isHour(hour) ? story.rowsOfMind(view, hour) : NO_SUCH;
    }

    public int split(int hour) {
        return isHour(hour) ? Math.abs(story.leadOfOne(garden.everyone(), hour)) : NO_SUCH;
    }

    public int main(int hour) {
        return isHour(hour) ? viewOfLead(story.leadOfOne(garden.everyone(), hour)) : NO_SUCH;
    }

    public int first(int view) {
        return isGarden() && isView(view) ? story.firstHour(garden.everyone(), view) : NO_SUCH;
    }

    public int solid(int hour) {
        return isHour(hour) ? story.solidRows(hour) : NO_SUCH;
    }

    public int longest(int view, int hour) {
        return isAnyView(view) && isHour(hour) ? story.longestRun(view, hour) : NO_SUCH;
    }

    public int pull(int head, int hour) {
        return isHead(head) && isHour(hour) ? course.lean(head, course.states[hour]) : NO_VALUE;
    }

    public int tied(int hour) {
        return isHour(hour) ? story.tiedAt(hour) : NO_SUCH;
    }

    public int since(int head) {
        return isHead(head) ? story.steadySince(head) : NO_SUCH;
    }

    public int held(int head) {
        return isHead(head) ? story.longestHeld(head) : NO_SUCH;
    }

    public int hush(int hour) {
        return isHour(hour) ? story.hushAt(hour) : NO_SUCH;
    }

    public int lonely(int hour) {
        return isHour(hour) ? story.lonelyAt(hour) : NO_SUCH;
    }

    public int quarrels(int hour) {
        return isHour(hour) ? story.quarrelsAt(hour) : NO_SUCH;
    }

    public int never(int view) {
        return isGarden() && isView(view) ? story.neverHeld(view) : NO_SUCH;
    }

    public int most(int view) {
        return isGarden() && isView(view) ? story.fullestHour(view) : NO_SUCH;
    }

    // ---- what comes of telling

    public int fewest(int view) {
        if (!isGarden() || !isView(view)) {
            return NO_SUCH;
        }
        int set = telling.leastSet(view);
        return set == NONE ? NONE : Integer.bitCount(set);
    }

    public int tell(int view) {
        return isGarden() && isView(view) ? telling.leastSet(view) : NO_SUCH;
    }

    public int brings(int view, int set) {
        boolean known = isGarden() && isView(view) && (set & ~garden.everyone()) == 0;
        return known ? Integer.bitCount(telling.holdersTold(view, set)) : NO_SUCH;
    }

    public int loud(int view) {
        return isGarden() && isView(view) ? telling.loudest(view) : NO_SUCH;
    }

    public int firm(int view) {
        return isGarden() && isView(view) ? telling.firmHeads(view) : NO_SUCH;
    }

    public long share(int head, int view, int what) {
        if (!isHead(head) || !isView(view) || !isPart(what)) {
            return NO_SUCH;
        }
        if (garden.heads > MOST_SHARING) {
            return TOO_MANY;
        }
        return part(telling.shareAbove(head, view), factorial(garden.heads), what);
    }

    public long sample(int hour, int n, int what) {
        boolean known = isHour(hour) && isPart(what) && n >= 1 && n <= story.living(hour);
        return known ? part(story.samplesForOne(hour, n), choose(story.living(hour), n), what) : NO_SUCH;
    }

    public int sure(int hour) {
        return isHour(hour) ? story.leastSure(hour) : NO_SUCH;
    }

    public int worth() {
        if (garden.heads == 0) {
            return NO_VALUE;
        }
        contest.seekOpener();
        return contest.worth;
    }

    public int opens() {
        if (!isGarden()) {
            return NO_SUCH;
        }
        contest.seekOpener();
        return contest.opener;
    }

    public int replies(int head) {
        return isHead(head) ? contest.bestReply(head) : NO_SUCH;
    }

    // ---- what was seen, and by which law

    public int whom(int slot, int view) {
        int refusal = isView(view) ? refusalOfSeen(slot) : NO_SUCH;
        return refusal == 0 ? seen.candidates(slot, view) : refusal;
    }

    public int ask(int slot, int view) {
        int refusal = isView(view) ? refusalOfSeen(slot) : NO_SUCH;
        if (refusal != 0) {
            return refusal;
        }
        seen.seekQuestion(slot, view);
        return seen.question;
    }

    public int leaves(int slot, int view) {
        int refusal = isView(view) ? refusalOfSeen(slot) : NO_SUCH;
        if (refusal != 0) {
            return refusal;
        }
        seen.seekQuestion(slot, view);
        return seen.left;
    }

    public int laws(int slot) {
        int refusal = refusalOfSeen(slot);
        return refusal == 0 ? seen.fittingLaws(slot) : refusal;
    }

    public int by(int law) {
        if (!isGarden() || law < 0 || law >= LAWS) {
            return NO_SUCH;
        }
        trial.asLaw(law);
        trial.run();
        return holdersIn(trial.lastState(), 1);
    }

    public int law() {
        return isGarden() ? contest.bestLaw() : NO_SUCH;
    }

    public int rests(int head, int other) {
        return isPair(head, other) ? contest.restingPairs(head, other) : NO_SUCH;
    }

    public int gets(int head, int other, int x, int y) {
        boolean known = isPair(head, other) && isPart(x) && isPart(y);
        return known ? contest.gain(head, x << head | y << other) : NO_VALUE;
    }

    // ---- wet hours

    public long chance(int head, int view, int hour, int what) {
        if (!isHead(head) || !isAnyView(view) || !isWetHour(hour) || !isPart(what)) {
            return NO_SUCH;
        }
        return part(weather.weightOfView(head, view, hour), weather.weightOfAll(hour), what);
    }

    public long mean(int hour, int what) {
        if (!isWetHour(hour) || !isPart(what)) {
            return NO_SUCH;
        }
        return part(weather.weightOfOnes(hour), weather.weightOfAll(hour), what);
    }

    // ---- acts

    public int say(int view, int head, int hour) {
        if (!isView(view) || !isHead(head) || !isHour(hour)) {
            return NO_SUCH;
        }
        if (garden.acts >= MOST_ACTS) {
            return REFUSED;
        }
        garden.act(view, head, hour);
        retell();
        return Integer.bitCount(holdersIn(course.lastState(), view));
    }

    public int slug(int head, int hour) {
        if (!isHead(head) || !isHour(hour)) {
            return NO_SUCH;
        }
        if (garden.acts >= MOST_ACTS) {
            return REFUSED;
        }
        garden.act(0, head, hour);
        retell();
        return plan.gone[garden.hours];
    }

    public int undo() {
        if (!isGarden()) {
            return NO_SUCH;
        }
        if (garden.acts == 0) {
            return REFUSED;
        }
        garden.acts--;
        retell();
        return garden.acts;
    }

    public int anew() {
        if (!isGarden()) {
            return NO_SUCH;
        }
        int done = garden.acts;
        garden.acts = 0;
        retell();
        return done;
    }

    // ---- summers drawn

    public int drawn(int seed, int what) {
        if (!isGarden() || !isSeed(seed) || !isAnyView(what)) {
            return NO_SUCH;
        }
        int wet = weather.drawnWet(seed);
        if (what == 0) {
            return wet;
        }
        trial.asWet(wet);
        trial.run();
        return holdersIn(trial.lastState(), what);
    }

    public int luck(int seed, int n, int head, int view) {
        boolean known = isSeed(seed) && n >= 1 && n <= MOST_SUMMERS && isHead(head) && isAnyView(view);
        return known ? weather.luckySummers(seed, n, head, view) : NO_SUCH;
    }

    // ---- the garden changed, counted, kept

    public int rate(int head, int n) {
        if (!isHead(head) || n < 1 || n > MOST_HARD) {
            return NO_SUCH;
        }
        if (garden.acts > 0) {
            return REFUSED;
        }
        int was = garden.hard[head];
        garden.hard[head] = n;
        retell();
        return was;
    }

    public int count(int what) {
        switch (what) {
            case 0:
                return garden.hours;
            case 1:
                return garden.law;
            case 2:
                return garden.odds;
            case 3:
                return garden.rows;
            case 4:
                return garden.heads;
            case 5:
                return garden.sayings;
            case 6:
                return garden.slugs;
            case 7:
                return garden.acts;
            case 8:
                return garden.lines;
            case 9:
                return reader.size;
            case 10:
                return slots.filled();
            default:
                return NONE;
        }
    }

    public int image(int k) {
        if (k < 0 || k >= IMAGES) {
            return NO_SUCH;
        }
        images[k].copy(garden);
        kept[k] = true;
        return 0;
    }

    public int back(int k) {
        if (k < 0 || k >= IMAGES) {
            return NO_SUCH;
        }
        if (!kept[k]) {
            return NOTHING;
        }
        garden.copy(images[k]);
        retell();
        return 0;
    }

    // ---- slots

    public int row(int slot, int width, int n) {
        if (!isSlot(slot) || width < 0 || width >= WIDTHS || n > MOST_NUMBERS) {
            return NO_SUCH;
        }
        if (n < 0) {
            return BELOW_ZERO;
        }
        slots.lay(slot, width, n);
        return 0;
    }

    public int write(int slot, int i, long v) {
        if (!isSlot(slot)) {
            return NO_SUCH;
        }
        if (slots.isEmpty(slot)) {
            return NOTHING;
        }
        if (i < 0 || i >= slots.lengths[slot]) {
            return BEYOND;
        }
        slots.put(slot, i, v);
        return 0;
    }

    public int paste(int slot, int i, int to, int k, int n) {
        if (!isSlot(slot) || !isSlot(to)) {
            return NO_SUCH;
        }
        if (slots.isEmpty(slot) || slots.isEmpty(to)) {
            return NOTHING;
        }
        if (slots.widths[slot] != slots.widths[to]) {
            return OTHER_WIDTH;
        }
        if (!slots.reaches(slot, i, n) || !slots.reaches(to, k, n)) {
            return BEYOND;
        }
        System.arraycopy(slots.numbers[slot], i, slots.numbers[to], k, n);
        return 0;
    }

    // ---- what is asked of arguments

    private boolean isGarden() {
        return garden.lines > 0;
    }

    private boolean isHead(int head) {
        return head >= 0 && head < garden.heads;
    }

    private boolean isPair(int head, int other) {
        return isHead(head) && isHead(other) && head != other;
    }

    private boolean isRow(int row) {
        return row >= 0 && row < garden.rows;
    }

    private boolean isHour(int hour) {
        return isGarden() && hour >= 0 && hour <= garden.hours;
    }

    private boolean isWetHour(int hour) {
        return isHour(hour) && hour <= LATEST_WET && hour < garden.hours;
    }

    private static boolean isView(int view) {
        return view == 1 || view == 2;
    }

    private static boolean isAnyView(int view) {
        return view >= 0 && view <= 2;
    }

    private static boolean isPart(int what) {
        return what == 0 || what == 1;
    }

    private static boolean isSeed(int seed) {
        return seed >= 0 && seed <= MOST_SEED;
    }

    private static boolean isSlot(int slot) {
        return slot >= 0 && slot < SLOTS;
    }

    private int refusalOfSeen(int slot) {
        if (!isSlot(slot) || !isGarden()) {
            return NO_SUCH;
        }
        if (slots.isEmpty(slot)) {
            return NOTHING;
        }
        return seen.isSound(slot) ? 0 : NO_SUCH;
    }

    private void retell() {
        plan.make(garden);
        course.asItIs();
        course.run();
        telling.forget();
        contest.forget();
    }

    // ---- states of the views

    private static int holdersIn(int state, int view) {
        return view == 1 ? state & LOWER : state >>> HALF;
    }

    private static int inHalf(int set, int view) {
        return view == 1 ? set : set << HALF;
    }

    private static int inBoth(int set) {
        return set | set << HALF;
    }

    private static int viewIn(int state, int head) {
        return (state >>> head & 1) | (state >>> head + HALF & 1) << 1;
    }

    /** Whoever is said something holds it alone: the same heads leave the other half. */
    private static int heard(int state, int said) {
        int other = said << HALF | said >>> HALF;
        return state & ~other | said;
    }

    private static int leadIn(int state, int set) {
        return Integer.bitCount(state & set) - Integer.bitCount(state & set << HALF);
    }

    private static int viewOfLead(int lead) {
        if (lead == 0) {
            return 0;
        }
        return lead > 0 ? 1 : 2;
    }

    // ---- fractions

    private static long part(long above, long below, int what) {
        long divisor = commonDivisor(Math.abs(above), below);
        if (divisor == 0) {
            return 0;
        }
        return what == 0 ? above / divisor : below / divisor;
    }

    private static long commonDivisor(long a, long b) {
        // Euclid needs fewer than a hundred turns for any two longs.
        for (int turn = 0; turn < 100 && b != 0; turn++) {
            long rest = a % b;
            a = b;
            b = rest;
        }
        return a;
    }

    private static long factorial(int n) {
        long product = 1;
        for (int i = 2; i <= n; i++) {
            product *= i;
        }
        return product;
    }

    private static long choose(int n, int k) {
        if (k < 0 || k > n) {
            return 0;
        }
        long ways = 1;
        for (int i = 1; i <= k; i++) {
            ways = ways * (n - k + i) / i;
        }
        return ways;
    }

    /** What a text tells, and the acts since: all that an image keeps. */
    private static final class Garden {
        private static final int MOST_EVENTS = MOST_SAYINGS + MOST_SLUGS + MOST_ACTS;

        int lines;
        int hours;
        int law;
        int odds;
        int rows;
        int heads;
        int sayings;
        int slugs;
        int acts;
        final int[] hard = new int[MOST_HEADS];
        final int[] holds = new int[MOST_HEADS];
        final int[] rowOf = new int[MOST_HEADS];
        final int[] placeOf = new int[MOST_HEADS];
        final int[] nearTo = new int[MOST_HEADS];
        final int[] beside = new int[MOST_HEADS];
        final int[] inRow = new int[MOST_ROWS];
        /** Sayings and slugs, those told ahead of those of acts; a slug's view is 0. */
        final int[] eventView = new int[MOST_EVENTS];
        final int[] eventHead = new int[MOST_EVENTS];
        final int[] eventHour = new int[MOST_EVENTS];

        void clear() {
            lines = 0;
            hours = 0;
            law = 0;
            odds = 0;
            rows = 0;
            heads = 0;
            sayings = 0;
            slugs = 0;
            acts = 0;
        }

        void copy(Garden from) {
            lines = from.lines;
            hours = from.hours;
            law = from.law;
            odds = from.odds;
            rows = from.rows;
            heads = from.heads;
            sayings = from.sayings;
            slugs = from.slugs;
            acts = from.acts;
            System.arraycopy(from.hard, 0, hard, 0, MOST_HEADS);
            System.arraycopy(from.holds, 0, holds, 0, MOST_HEADS);
            System.arraycopy(from.rowOf, 0, rowOf, 0, MOST_HEADS);
            System.arraycopy(from.placeOf, 0, placeOf, 0, MOST_HEADS);
            System.arraycopy(from.nearTo, 0, nearTo, 0, MOST_HEADS);
            System.arraycopy(from.beside, 0, beside, 0, MOST_HEADS);
            System.arraycopy(from.inRow, 0, inRow, 0, MOST_ROWS);
            System.arraycopy(from.eventView, 0, eventView, 0, MOST_EVENTS);
            System.arraycopy(from.eventHead, 0, eventHead, 0, MOST_EVENTS);
            System.arraycopy(from.eventHour, 0, eventHour, 0, MOST_EVENTS);
        }

        int everyone() {
            return (1 << heads) - 1;
        }

        int events() {
            return sayings + slugs + acts;
        }

        void openRow() {
            if (rows < MOST_ROWS) {
                inRow[rows] = 0;
                rows++;
            }
        }

        /** A head stands at the end of the row that was opened last. */
        void plant(int hardness, int holding) {
            if (heads >= MOST_HEADS || rows == 0) {
                return;
            }
            int row = rows - 1;
            hard[heads] = hardness;
            holds[heads] = holding;
            rowOf[heads] = row;
            placeOf[heads] = Integer.bitCount(inRow[row]);
            inRow[row] |= 1 << heads;
            heads++;
        }

        void tellEvent(int view, int head, int hour) {
            if (events() >= MOST_EVENTS) {
                return;
            }
            setEvent(view, head, hour);
            if (view == 0) {
                slugs++;
            } else {
                sayings++;
            }
        }

        void act(int view, int head, int hour) {
            if (acts >= MOST_ACTS) {
                return;
            }
            setEvent(view, head, hour);
            acts++;
        }

        private void setEvent(int view, int head, int hour) {
            int index = events();
            eventView[index] = view;
            eventHead[index] = head;
            eventHour[index] = hour;
        }

        void findNeighbours() {
            for (int head = 0; head < heads; head++) {
                beside[head] = 0;
                nearTo[head] = 0;
                for (int other = 0; other < heads; other++) {
                    int across = Math.abs(rowOf[head] - rowOf[other]);
                    int along = Math.abs(placeOf[head] - placeOf[other]);
                    if (across + along == 1) {
                        nearTo[head] |= 1 << other;
                    }
                    if (across == 0 && along == 1) {
                        beside[head] |= 1 << other;
                    }
                }
            }
        }
    }

    /** The tape, and how a garden is read from it. */
    private static final class Reader {
        private static final int TAPE_END = 0;
        private static final int WORD = 1;
        private static final int NUMBER = 2;
        private static final int SIGN = 3;
        private static final int STRANGE = 4;
        private static final int BLANK = 5;
        private static final int MISPLACED = 1;
        private static final int OUT_OF_BOUNDS = 2;
        private static final int ONE_TOO_MANY = 3;
        private static final int BYTES_OF_FEED = 20;
        /** Far above every bound of a number, so that long numbers do not overflow. */
        private static final int HUGE = 1000;

        private final byte[] tape = new byte[MOST_TAPE];
        int size;
        int fault;
        int place = NONE;
        private int kind;
        private int start;
        private int next;
        private int value;
        private int number;

        boolean hasRoom() {
            return size + BYTES_OF_FEED <= MOST_TAPE;
        }

        void append(int four) {
            for (int shift = 24; shift >= 0 && size < MOST_TAPE; shift -= 8) {
                tape[size] = (byte) (four >>> shift);
                size++;
            }
        }

        boolean parse(Garden draft) {
            draft.clear();
            fault = 0;
            place = NONE;
            next = 0;
            advance();
            // A line has at least one byte, so that there are never more lines than bytes.
            for (int line = 0; line < MOST_TAPE && kind != TAPE_END; line++) {
                if (!readLine(draft)) {
                    return false;
                }
                draft.lines++;
            }
            draft.findNeighbours();
            return true;
        }

        private boolean readLine(Garden draft) {
            boolean sound;
            if (draft.lines == 0) {
                sound = readGarden(draft);
            } else if (isWord("row")) {
                sound = readRow(draft);
            } else if (isWord("say")) {
                sound = readSay(draft);
            } else if (isWord("slug")) {
                sound = readSlug(draft);
            } else {
                sound = refuse(MISPLACED);
            }
            return sound && takeSign();
        }

        private boolean readGarden(Garden draft) {
            if (!takeWord("garden") || !takeNumber("hours", 1, MOST_HOURS)) {
                return false;
            }
            draft.hours = number;
            if (!takeNumber("law", 0, LAWS - 1)) {
                return false;
            }
            draft.law = number;
            if (!takeNumber("odds", 0, MOST_ODDS)) {
                return false;
            }
            draft.odds = number;
            return true;
        }

        private boolean readRow(Garden draft) {
            if (draft.events() > 0) {
                return refuse(MISPLACED);
            }
            if (draft.rows >= MOST_ROWS) {
                return refuse(ONE_TOO_MANY);
            }
            advance();
            draft.openRow();
            for (int planted = 0; planted <= MOST_IN_ROW; planted++) {
                if (planted > 0 && !isWord("hard")) {
                    return true;
                }
                if (!readHead(draft, planted)) {
                    return false;
                }
            }
            return false;
        }

        private boolean readHead(Garden draft, int planted) {
            if (isWord("hard") && (planted >= MOST_IN_ROW || draft.heads >= MOST_HEADS)) {
                return refuse(ONE_TOO_MANY);
            }
            if (!takeNumber("hard", 1, MOST_HARD)) {
                return false;
            }
            int hardness = number;
            int holding = 0;
            if (isWord("holds")) {
                if (!takeNumber("holds", 1, MOST_HOURS)) {
                    return false;
                }
                holding = number;
            }
            draft.plant(hardness, holding);
            return true;
        }

        private boolean readSay(Garden draft) {
            if (draft.sayings >= MOST_SAYINGS) {
                return refuse(ONE_TOO_MANY);
            }
            return takeNumber("say", 1, 2) && readTarget(draft, number);
        }

        private boolean readSlug(Garden draft) {
            if (draft.slugs >= MOST_SLUGS) {
                return refuse(ONE_TOO_MANY);
            }
            return takeWord("slug") && readTarget(draft, 0);
        }

        private boolean readTarget(Garden draft, int view) {
            if (!takeNumber("to", 0, draft.heads - 1)) {
                return false;
            }
            int head = number;
            if (!takeNumber("at", 0, LATEST_TOLD)) {
                return false;
            }
            draft.tellEvent(view, head, number);
            return true;
        }

        /** Takes a word and the number behind it, which is kept in 'number'. */
        private boolean takeNumber(String word, int low, int high) {
            if (!isWord(word)) {
                return refuse(MISPLACED);
            }
            advance();
            if (kind != NUMBER) {
                return refuse(MISPLACED);
            }
            if (value < low || value > high) {
                return refuse(OUT_OF_BOUNDS);
            }
            number = value;
            advance();
            return true;
        }

        private boolean takeWord(String word) {
            if (!isWord(word)) {
                return refuse(MISPLACED);
            }
            advance();
            return true;
        }

        private boolean takeSign() {
            if (kind != SIGN) {
                return refuse(MISPLACED);
            }
            advance();
            return true;
        }

        private boolean refuse(int code) {
            fault = code;
            place = start;
            return false;
        }

        private boolean isWord(String word) {
            if (kind != WORD || next - start != word.length()) {
                return false;
            }
            for (int i = 0; i < word.length(); i++) {
                if (tape[start + i] != word.charAt(i)) {
                    return false;
                }
            }
            return true;
        }

        /** Goes to the next token: one byte, or as many letters or digits as stand together. */
        private void advance() {
            start = next;
            while (start < size && kindOf(tape[start]) == BLANK) {
                start++;
            }
            kind = start < size ? kindOf(tape[start]) : TAPE_END;
            value = 0;
            next = start;
            boolean isLong = kind == WORD || kind == NUMBER;
            while (next < size && kindOf(tape[next]) == kind && (isLong || next == start)) {
                if (kind == NUMBER) {
                    value = Math.min(HUGE, value * 10 + tape[next] - '0');
                }
                next++;
            }
        }

        private static int kindOf(int sign) {
            if (sign == 32 || sign == 10) {
                return BLANK;
            }
            if (sign >= 'a' && sign <= 'z') {
                return WORD;
            }
            if (sign >= '0' && sign <= '9') {
                return NUMBER;
            }
            return sign == ';' ? SIGN : STRANGE;
        }
    }

    /** What each hour brings, whatever the views are: what is said, who is gone, who holds out. */
    private static final class Plan {
        /** As a state: who is said 1 in the lower half, who is said 2 in the upper. */
        final int[] said = new int[MOST_HOURS + 1];
        final int[] gone = new int[MOST_HOURS + 1];
        final int[] open = new int[MOST_HOURS + 1];

        void make(Garden garden) {
            for (int hour = 0; hour <= MOST_HOURS; hour++) {
                said[hour] = 0;
                gone[hour] = 0;
                open[hour] = 0;
            }
            for (int i = 0; i < garden.events(); i++) {
                enter(garden.eventView[i], 1 << garden.eventHead[i], garden.eventHour[i]);
            }
            for (int hour = 1; hour <= MOST_HOURS; hour++) {
                gone[hour] |= gone[hour - 1];
            }
            for (int head = 0; head < garden.heads; head++) {
                openFrom(garden.holds[head], 1 << head);
            }
        }

        private void enter(int view, int bit, int hour) {
            if (hour < 0 || hour > MOST_HOURS) {
                return;
            }
            if (view == 0) {
                gone[hour] |= bit;
            } else {
                said[hour] = heard(said[hour], inHalf(bit, view));
            }
        }

        private void openFrom(int holds, int bit) {
            for (int hour = Math.max(0, holds); hour <= MOST_HOURS; hour++) {
                open[hour] |= bit;
            }
        }
    }

    /** One run of all hours, with what is put in place of the garden's own. */
    private static final class Course {
        private final Garden garden;
        private final Plan plan;
        private int lawNow;
        private int harder;
        private int told;
        private int reply;
        private int wet;
        final int[] states = new int[MOST_HOURS + 1];

        Course(Garden garden, Plan plan) {
            this.garden = garden;
            this.plan = plan;
        }

        void asItIs() {
            lawNow = garden.law;
            harder = 0;
            told = 0;
            reply = 0;
            wet = 0;
        }

        void asTold(int view, int set) {
            asItIs();
            told = inHalf(set, view);
        }

        void asDuel(int head, int other) {
            asItIs();
            told = inHalf(1 << head, 1);
            reply = inHalf(1 << other, 2);
        }

        void asLaw(int law) {
            asItIs();
            lawNow = law;
        }

        void asHarder(int set) {
            asItIs();
            harder = set;
        }

        void asWet(int hours) {
            asItIs();
            wet = hours;
        }

        void run() {
            int state = heard(heard(plan.said[0], told), reply) & ~inBoth(plan.gone[0]);
            states[0] = state;
            int calmState = state;
            int calmTakers = NONE;
            for (int hour = 0; hour < garden.hours && hour < MOST_HOURS; hour++) {
                int takers = takersAt(hour);
                // Views that the same takers have left as they were need not be passed on again.
                boolean calm = state == calmState && takers == calmTakers;
                if (!calm && (wet >>> hour & 1) == 0) {
                    calmState = state;
                    state = passTo(takers, state);
                    calmTakers = state == calmState ? takers : NONE;
                }
                state = arrive(hour + 1, state);
                states[hour + 1] = state;
            }
        }

        /** The views in an hour, of those that come to it from the hour ahead. */
        int arrive(int hour, int state) {
            return heard(state, plan.said[hour]) & ~inBoth(plan.gone[hour]);
        }

        /** Who may take a view from an hour to the next, if it is not wet. */
        int takersAt(int hour) {
            return plan.open[hour] & ~plan.gone[hour];
        }

        int passTo(int takers, int state) {
            int able = lawNow == 2 ? takers & ~(state | state >>> HALF) : takers;
            int next = state;
            for (int head = 0; head < garden.heads; head++) {
                int bit = 1 << head;
                if ((able & bit) != 0 && (state & inBoth(garden.nearTo[head])) != 0) {
                    int lean = lean(head, state);
                    int need = garden.hard[head] + (harder >>> head & 1);
                    if (Math.abs(lean) >= need) {
                        next = heard(next, lean > 0 ? bit : bit << HALF);
                    }
                }
            }
            return next;
        }

        /** How many more count for 1 than for 2 with a head, by the law of this run. */
        int lean(int head, int state) {
            int near = garden.nearTo[head];
            // By law 3 a head is as one of its own neighbours.
            int counted = lawNow == 3 ? near | 1 << head : near;
            int lean = Integer.bitCount(state & counted) - Integer.bitCount(state & counted << HALF);
            if (lawNow == 1) {
                int again = garden.beside[head];
                lean += Integer.bitCount(state & again) - Integer.bitCount(state & again << HALF);
            }
            return lean;
        }

        int viewAt(int head, int hour) {
            return viewIn(states[hour], head);
        }

        int lastState() {
            return states[garden.hours];
        }
    }

    /** What is asked of the views as they come, hour by hour. */
    private static final class Story {
        /** More than there are states of twelve heads, twice. */
        private static final int LONGEST_CIRCLE = 1100000;

        private final Garden garden;
        private final Plan plan;
        private final Course course;

        Story(Garden garden, Plan plan, Course course) {
            this.garden = garden;
            this.plan = plan;
            this.course = course;
        }

        int aliveAt(int hour) {
            return garden.everyone() & ~plan.gone[hour];
        }

        int living(int hour) {
            return Integer.bitCount(aliveAt(hour));
        }

        int holdersAt(int view, int hour) {
            int state = course.states[hour];
            if (view == 0) {
                return aliveAt(hour) & ~(state | state >>> HALF);
            }
            return holdersIn(state, view);
        }

        int turnedAt(int hour) {
            int ahead = hour == 0 ? 0 : course.states[hour - 1];
            int changed = course.states[hour] ^ ahead;
            return (changed | changed >>> HALF) & LOWER;
        }

        int changesOf(int head) {
            int changes = 0;
            for (int hour = 1; hour <= garden.hours; hour++) {
                changes += turnedAt(hour) >>> head & 1;
            }
            return changes;
        }

        int firstHour(int set, int view) {
            for (int hour = 0; hour <= garden.hours; hour++) {
                if ((holdersAt(view, hour) & set) != 0) {
                    return hour;
                }
            }
            return NONE;
        }

        int hoursOf(int head, int view) {
            int hours = 0;
            for (int hour = 0; hour <= garden.hours; hour++) {
                hours += holdersAt(view, hour) >>> head & 1;
            }
            return hours;
        }

        int firstView(int head) {
            for (int hour = 0; hour <= garden.hours; hour++) {
                if (course.viewAt(head, hour) != 0) {
                    return course.viewAt(head, hour);
                }
            }
            return 0;
        }

        int mostFickle() {
            int best = NONE;
            int most = 0;
            for (int head = 0; head < garden.heads; head++) {
                int changes = changesOf(head);
                if (changes > most) {
                    most = changes;
                    best = head;
                }
            }
            return best;
        }

        int firstAccord() {
            for (int hour = 0; hour <= garden.hours; hour++) {
                if (isOfOneMind(garden.everyone(), hour)) {
                    return hour;
                }
            }
            return NONE;
        }

        private boolean isOfOneMind(int set, int hour) {
            int alive = set & aliveAt(hour);
            int state = course.states[hour];
            boolean allOne = (alive & ~holdersIn(state, 1)) == 0;
            boolean allTwo = (alive & ~holdersIn(state, 2)) == 0;
            return alive != 0 && (allOne || allTwo);
        }

        int stillFrom() {
            int hour = garden.hours;
            while (hour > 0 && turnedAt(hour) == 0) {
                hour--;
            }
            return hour;
        }

        int longestQuiet() {
            int longest = 0;
            int run = 0;
            for (int hour = 1; hour <= garden.hours; hour++) {
                run = turnedAt(hour) == 0 ? run + 1 : 0;
                longest = Math.max(longest, run);
            }
            return longest;
        }

        private int passAfter(int state) {
            return course.passTo(aliveAt(garden.hours), state);
        }

        /** Brent's search: the anchor moves to powers of two, until the states come back to it. */
        int circleLength() {
            int anchor = course.lastState();
            int state = passAfter(anchor);
            int length = 1;
            int power = 1;
            for (int step = 0; step < LONGEST_CIRCLE && state != anchor; step++) {
                if (length == power) {
                    anchor = state;
                    power *= 2;
                    length = 0;
                }
                state = passAfter(state);
                length++;
            }
            return length;
        }

        /** After how many hours the first state stands that comes again 'apart' hours later. */
        int circleEntry(int apart) {
            int behind = course.lastState();
            int ahead = behind;
            for (int step = 0; step < apart; step++) {
                ahead = passAfter(ahead);
            }
            int entry = 0;
            for (int step = 0; step < LONGEST_CIRCLE && behind != ahead; step++) {
                behind = passAfter(behind);
                ahead = passAfter(ahead);
                entry++;
            }
            return entry;
        }

        int leadOfOne(int set, int hour) {
            return leadIn(course.states[hour], set);
        }

        int mindOf(int row, int hour) {
            return viewOfLead(leadOfOne(garden.inRow[row], hour));
        }

        int rowsOfMind(int view, int hour) {
            int found = 0;
            for (int row = 0; row < garden.rows; row++) {
                if (mindOf(row, hour) == view) {
                    found |= 1 << row;
                }
            }
            return found;
        }

        int solidRows(int hour) {
            int found = 0;
            for (int row = 0; row < garden.rows; row++) {
                if (isOfOneMind(garden.inRow[row], hour)) {
                    found |= 1 << row;
                }
            }
            return found;
        }

        int longestRun(int view, int hour) {
            int holders = holdersAt(view, hour);
            int longest = 0;
            int run = 0;
            for (int head = 0; head < garden.heads; head++) {
                if (garden.placeOf[head] == 0) {
                    run = 0;
                }
                run = (holders >>> head & 1) != 0 ? run + 1 : 0;
                longest = Math.max(longest, run);
            }
            return longest;
        }

        int tiedAt(int hour) {
            int alive = aliveAt(hour);
            int found = 0;
            for (int head = 0; head < garden.heads; head++) {
                if ((alive >>> head & 1) != 0 && course.lean(head, course.states[hour]) == 0) {
                    found |= 1 << head;
                }
            }
            return found;
        }

        int steadySince(int head) {
            int hour = garden.hours;
            while (hour > 0 && (turnedAt(hour) >>> head & 1) == 0) {
                hour--;
            }
            return hour;
        }

        int longestHeld(int head) {
            int longest = 0;
            int run = 0;
            for (int hour = 0; hour <= garden.hours; hour++) {
                boolean goesOn = (turnedAt(hour) >>> head & 1) == 0;
                boolean holds = course.viewAt(head, hour) != 0;
                run = holds ? (goesOn ? run + 1 : 1) : 0;
                longest = Math.max(longest, run);
            }
            return longest;
        }

        int hushAt(int hour) {
            int quietOnes = holdersAt(0, hour);
            int found = 0;
            for (int head = 0; head < garden.heads; head++) {
                boolean alone = (course.states[hour] & inBoth(garden.nearTo[head])) == 0;
                if ((quietOnes >>> head & 1) != 0 && alone) {
                    found |= 1 << head;
                }
            }
            return found;
        }

        int lonelyAt(int hour) {
            int found = 0;
            for (int head = 0; head < garden.heads; head++) {
                int view = course.viewAt(head, hour);
                if (view != 0 && (holdersAt(view, hour) & garden.nearTo[head]) == 0) {
                    found |= 1 << head;
                }
            }
            return found;
        }

        int quarrelsAt(int hour) {
            int ones = holdersAt(1, hour);
            int twos = holdersAt(2, hour);
            int pairs = 0;
            for (int head = 0; head < garden.heads; head++) {
                if ((ones >>> head & 1) != 0) {
                    pairs += Integer.bitCount(garden.nearTo[head] & twos);
                }
            }
            return pairs;
        }

        int neverHeld(int view) {
            int left = garden.everyone();
            for (int hour = 0; hour <= garden.hours; hour++) {
                left &= ~holdersAt(view, hour);
            }
            return left;
        }

        int fullestHour(int view) {
            int best = 0;
            int most = 0;
            for (int hour = 0; hour <= garden.hours; hour++) {
                int holders = Integer.bitCount(holdersAt(view, hour));
                if (holders > most) {
                    most = holders;
                    best = hour;
                }
            }
            return best;
        }

        /** How many of all samples of n have more of 1 than of 2. */
        long samplesForOne(int hour, int n) {
            int ones = Integer.bitCount(holdersAt(1, hour));
            int twos = Integer.bitCount(holdersAt(2, hour));
            int others = living(hour) - ones - twos;
            long found = 0;
            for (int one = 1; one <= ones; one++) {
                for (int two = 0; two <= twos && two < one; two++) {
                    found += choose(ones, one) * choose(twos, two) * choose(others, n - one - two);
                }
            }
            return found;
        }

        int leastSure(int hour) {
            for (int n = 1; n <= living(hour); n++) {
                if (2 * samplesForOne(hour, n) >= choose(living(hour), n)) {
                    return n;
                }
            }
            return NONE;
        }
    }

    /** Sets of heads that are told a view in the first hour. */
    private static final class Telling {
        private static final int UNKNOWN = -2;
        private static final int VIEWS = 3;
        private static final int SETS = 1 << MOST_SHARING;

        private final Garden garden;
        private final Plan plan;
        private final Course trial;
        /** Found once for each view, until the garden or an act changes. */
        private final int[] least = {UNKNOWN, UNKNOWN, UNKNOWN};
        /** How many heads each set brings, by view; learnt when it is asked for. */
        private final int[][] brought = new int[VIEWS][SETS];
        private final boolean[] learnt = new boolean[VIEWS];

        Telling(Garden garden, Plan plan, Course trial) {
            this.garden = garden;
            this.plan = plan;
            this.trial = trial;
        }

        void forget() {
            for (int view = 0; view < VIEWS; view++) {
                least[view] = UNKNOWN;
                learnt[view] = false;
            }
        }

        int holdersTold(int view, int set) {
            trial.asTold(view, set);
            trial.run();
            return holdersIn(trial.lastState(), view);
        }

        private boolean winsAll(int view, int set) {
            trial.asTold(view, set);
            trial.run();
            int alive = garden.everyone() & ~plan.gone[garden.hours];
            return (alive & ~holdersIn(trial.lastState(), view)) == 0;
        }

        int leastSet(int view) {
            if (least[view] != UNKNOWN) {
                return least[view];
            }
            int found = NONE;
            // Where all do not win, no set does.
            int largest = winsAll(view, garden.everyone()) ? garden.heads : NONE;
            for (int size = 0; size <= largest && found == NONE; size++) {
                found = seekOfSize(view, 0, garden.heads, size);
            }
            least[view] = found;
            return found;
        }

        /**
         * The least winning set of those told and 'size' more of the heads below 'open'. A set that
         * does not win has no subset that does: with the views in the order 2, 0, 1 each law is
         * monotone, so that telling more heads a view never takes it from anybody.
         */
        private int seekOfSize(int view, int told, int open, int size) {
            if (size == 0) {
                return winsAll(view, told) ? told : NONE;
            }
            if (open < size || open <= 0) {
                return NONE;
            }
            int head = open - 1;
            int lower = (1 << head) - 1;
            if (head >= size && winsAll(view, told | lower)) {
                int found = seekOfSize(view, told, head, size);
                if (found != NONE) {
                    return found;
                }
            }
            return seekOfSize(view, told | 1 << head, head, size - 1);
        }

        int loudest(int view) {
            int best = NONE;
            int most = -1;
            for (int head = 0; head < garden.heads; head++) {
                int holders = Integer.bitCount(holdersTold(view, 1 << head));
                if (holders > most) {
                    most = holders;
                    best = head;
                }
            }
            return best;
        }

        int firmHeads(int view) {
            int found = 0;
            for (int head = 0; head < garden.heads; head++) {
                int bit = 1 << head;
                if ((holdersTold(view, garden.everyone() & ~bit) & bit) == 0) {
                    found |= bit;
                }
            }
            return found;
        }

        /** The sum over all orders of what a head brings more, for at most eight heads. */
        long shareAbove(int head, int view) {
            if (garden.heads > MOST_SHARING) {
                return 0;
            }
            learnBrought(view);
            int bit = 1 << head;
            long sum = 0;
            for (int set = 0; set <= garden.everyone(); set++) {
                if ((set & bit) == 0) {
                    int ahead = Integer.bitCount(set);
                    long orders = factorial(ahead) * factorial(garden.heads - 1 - ahead);
                    sum += orders * (brought[view][set | bit] - brought[view][set]);
                }
            }
            return sum;
        }

        private void learnBrought(int view) {
            if (learnt[view]) {
                return;
            }
            for (int set = 0; set <= garden.everyone() && set < SETS; set++) {
                brought[view][set] = Integer.bitCount(holdersTold(view, set));
            }
            learnt[view] = true;
        }
    }

    /** Two who tell by turns, two who may be harder, and four laws side by side. */
    private static final class Contest {
        private static final int REWARD = 2;
        private static final int COST = 3;
        private static final int UNKNOWN = -2;
        private static final int LEAST_WORTH = -MOST_HEADS - 1;

        private final Garden garden;
        private final Course trial;
        /** Found once, until the garden or an act changes. */
        int opener = UNKNOWN;
        int worth;

        Contest(Garden garden, Course trial) {
            this.garden = garden;
            this.trial = trial;
        }

        void forget() {
            opener = UNKNOWN;
        }

        int outcome(int head, int other) {
            trial.asDuel(head, other);
            trial.run();
            return leadIn(trial.lastState(), garden.everyone());
        }

        int bestReply(int head) {
            int best = NONE;
            int least = 0;
            for (int other = 0; other < garden.heads; other++) {
                int value = outcome(head, other);
                if (best == NONE || value < least) {
                    least = value;
                    best = other;
                }
            }
            return best;
        }

        /** Finds the opener and what the contest is worth. */
        void seekOpener() {
            if (opener != UNKNOWN) {
                return;
            }
            opener = NONE;
            worth = LEAST_WORTH;
            for (int head = 0; head < garden.heads; head++) {
                int value = MOST_HEADS;
                // A reply that makes a head no better than an earlier one settles it.
                for (int other = 0; other < garden.heads && value > worth; other++) {
                    value = Math.min(value, outcome(head, other));
                }
                if (value > worth) {
                    worth = value;
                    opener = head;
                }
            }
        }

        int gain(int head, int harder) {
            trial.asHarder(harder);
            trial.run();
            int gain = (harder >>> head & 1) != 0 ? -COST : 0;
            for (int hour = 1; hour <= garden.hours; hour++) {
                int view = trial.viewAt(head, hour);
                if (view != 0 && view == trial.viewAt(head, hour - 1)) {
                    gain += REWARD;
                }
            }
            return gain;
        }

        int restingPairs(int head, int other) {
            int found = 0;
            for (int choice = 0; choice < 4; choice++) {
                int harder = (choice & 1) << head | (choice >>> 1) << other;
                boolean headStays = gain(head, harder) >= gain(head, harder ^ 1 << head);
                boolean otherStays = gain(other, harder) >= gain(other, harder ^ 1 << other);
                if (headStays && otherStays) {
                    found |= 1 << choice;
                }
            }
            return found;
        }

        int bestLaw() {
            int best = 0;
            int most = -1;
            for (int law = 0; law < LAWS; law++) {
                trial.asLaw(law);
                trial.run();
                int holders = Integer.bitCount(holdersIn(trial.lastState(), 1));
                if (holders > most) {
                    most = holders;
                    best = law;
                }
            }
            return best;
        }
    }

    /** Rows of numbers. */
    private static final class Slots {
        private static final int NO_ROW = -1;

        final long[][] numbers = new long[SLOTS][MOST_NUMBERS];
        final int[] widths = new int[SLOTS];
        final int[] lengths = {NO_ROW, NO_ROW, NO_ROW, NO_ROW};

        boolean isEmpty(int slot) {
            return lengths[slot] == NO_ROW;
        }

        int filled() {
            int filled = 0;
            for (int slot = 0; slot < SLOTS; slot++) {
                filled += isEmpty(slot) ? 0 : 1;
            }
            return filled;
        }

        void lay(int slot, int width, int n) {
            widths[slot] = width;
            lengths[slot] = n;
            for (int i = 0; i < MOST_NUMBERS; i++) {
                numbers[slot][i] = 0;
            }
        }

        void put(int slot, int i, long v) {
            numbers[slot][i] = cut(v, widths[slot]);
        }

        private static long cut(long v, int width) {
            switch (width) {
                case 0:
                    return (byte) v;
                case 1:
                    return (short) v;
                case 2:
                    return (int) v;
                default:
                    return v;
            }
        }

        /** As a copy of an array asks it: a place behind the row is beyond it even for no numbers. */
        boolean reaches(int slot, int from, int n) {
            return from >= 0 && n >= 0 && from <= lengths[slot] && n <= lengths[slot] - from;
        }
    }

    /** What a slot's row tells as seen, three numbers each: a head, an hour, its view. */
    private static final class Seen {
        private static final int EACH = 3;
        private static final int HEAD_STEP = 100;

        private final Garden garden;
        private final Slots slots;
        private final Course trial;
        /** Of each head that fits, the states of all hours with it told. */
        private final int[][] histories = new int[MOST_HEADS][MOST_HOURS + 1];
        private int fitting;
        int question;
        int left;

        Seen(Garden garden, Slots slots, Course trial) {
            this.garden = garden;
            this.slots = slots;
            this.trial = trial;
        }

        boolean isSound(int slot) {
            int length = slots.lengths[slot];
            if (length % EACH != 0) {
                return false;
            }
            long[] row = slots.numbers[slot];
            for (int i = 0; i + 2 < length; i += EACH) {
                boolean head = row[i] >= 0 && row[i] < garden.heads;
                boolean hour = row[i + 1] >= 0 && row[i + 1] <= garden.hours;
                boolean view = row[i + 2] >= 0 && row[i + 2] <= 2;
                if (!head || !hour || !view) {
                    return false;
                }
            }
            return true;
        }

        private boolean fits(int slot) {
            long[] row = slots.numbers[slot];
            for (int i = 0; i + 2 < slots.lengths[slot]; i += EACH) {
                if (trial.viewAt((int) row[i], (int) row[i + 1]) != row[i + 2]) {
                    return false;
                }
            }
            return true;
        }

        int candidates(int slot, int view) {
            int found = 0;
            fitting = 0;
            for (int head = 0; head < garden.heads; head++) {
                trial.asTold(view, 1 << head);
                trial.run();
                if (fits(slot)) {
                    found |= 1 << head;
                    System.arraycopy(trial.states, 0, histories[fitting], 0, MOST_HOURS + 1);
                    fitting++;
                }
            }
            return found;
        }

        int fittingLaws(int slot) {
            int found = 0;
            for (int law = 0; law < LAWS; law++) {
                trial.asLaw(law);
                trial.run();
                if (fits(slot)) {
                    found |= 1 << law;
                }
            }
            return found;
        }

        void seekQuestion(int slot, int view) {
            candidates(slot, view);
            question = NONE;
            left = fitting;
            for (int head = 0; head < garden.heads; head++) {
                for (int hour = 0; hour <= garden.hours; hour++) {
                    int worst = leftAtWorst(head, hour);
                    if (worst < left) {
                        left = worst;
                        question = HEAD_STEP * head + hour;
                    }
                }
            }
        }

        private int leftAtWorst(int head, int hour) {
            int ones = 0;
            int twos = 0;
            for (int i = 0; i < fitting; i++) {
                int state = histories[i][hour];
                ones += holdersIn(state, 1) >>> head & 1;
                twos += holdersIn(state, 2) >>> head & 1;
            }
            return Math.max(fitting - ones - twos, Math.max(ones, twos));
        }
    }

    /** Wet hours, by chance or drawn from a seed. */
    private static final class Weather {
        private static final int TEN = 10;
        private static final int MOST_STATES = 1 << LATEST_WET + 1;
        private static final long FACTOR = 1103515245L;
        private static final long ADDEND = 12345L;
        private static final long MODULUS = 2147483648L;
        private static final long CUT = 65536L;

        private final Garden garden;
        private final Course course;
        private final Course trial;
        /** The states that an hour can have, each with its weight of all. */
        private final int[] states = new int[MOST_STATES];
        private final long[] weights = new long[MOST_STATES];
        private int size;
        private final int[] nextStates = new int[MOST_STATES];
        private final long[] nextWeights = new long[MOST_STATES];
        private int nextSize;

        Weather(Garden garden, Course course, Course trial) {
            this.garden = garden;
            this.course = course;
            this.trial = trial;
        }

        long weightOfAll(int hour) {
            long weight = 1;
            for (int i = 0; i <= hour; i++) {
                weight *= TEN;
            }
            return weight;
        }

        long weightOfView(int head, int view, int hour) {
            spread(hour);
            long sum = 0;
            for (int i = 0; i < size; i++) {
                if (viewIn(states[i], head) == view) {
                    sum += weights[i];
                }
            }
            return sum;
        }

        long weightOfOnes(int hour) {
            spread(hour);
            long sum = 0;
            for (int i = 0; i < size; i++) {
                sum += weights[i] * Integer.bitCount(holdersIn(states[i], 1));
            }
            return sum;
        }

        /** Finds the states of the hour behind one. */
        private void spread(int latest) {
            states[0] = course.states[0];
            weights[0] = 1;
            size = 1;
            for (int hour = 0; hour <= latest && hour < MOST_HOURS; hour++) {
                nextSize = 0;
                int takers = course.takersAt(hour);
                for (int i = 0; i < size; i++) {
                    int dry = course.arrive(hour + 1, course.passTo(takers, states[i]));
                    int wet = course.arrive(hour + 1, states[i]);
                    addNext(dry, weights[i] * (TEN - garden.odds));
                    addNext(wet, weights[i] * garden.odds);
                }
                System.arraycopy(nextStates, 0, states, 0, nextSize);
                System.arraycopy(nextWeights, 0, weights, 0, nextSize);
                size = nextSize;
            }
        }

        /** Ways that lead to one state go on as one. */
        private void addNext(int state, long weight) {
            if (weight == 0) {
                return;
            }
            for (int i = 0; i < nextSize; i++) {
                if (nextStates[i] == state) {
                    nextWeights[i] += weight;
                    return;
                }
            }
            if (nextSize < MOST_STATES) {
                nextStates[nextSize] = state;
                nextWeights[nextSize] = weight;
                nextSize++;
            }
        }

        int drawnWet(int seed) {
            long x = seed;
            int wet = 0;
            for (int hour = 0; hour < garden.hours; hour++) {
                x = (FACTOR * x + ADDEND) % MODULUS;
                if (x / CUT % TEN < garden.odds) {
                    wet |= 1 << hour;
                }
            }
            return wet;
        }

        int luckySummers(int seed, int n, int head, int view) {
            int lucky = 0;
            for (int i = 0; i < n; i++) {
                trial.asWet(drawnWet(seed + i));
                trial.run();
                if (trial.viewAt(head, garden.hours) == view) {
                    lucky++;
                }
            }
            return lucky;
        }
    }
}
