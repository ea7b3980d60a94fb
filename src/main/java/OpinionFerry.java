import java.util.Arrays;
import java.util.NoSuchElementException;

/**
 * A ferry that goes only while what those in it say on a raised question balances. Texts come by
 * the tape; sets of people are bits, the first one the lowest.
 */
public final class OpinionFerry {
    public static final int NONE = -1;

    private static final int MAX_ASKS = 9;
    private static final int MAX_MEN = 10;
    private static final int MAX_FIRM = 9;
    private static final int STRONG = 5;
    private static final int SETS = 1 << MAX_MEN;

    private static final int MAX_TAPE = 940;
    private static final int FED_BYTES = 20;
    private static final int MAX_FERRY_BYTES = 900;
    private static final int MAX_LOG_BYTES = 400;
    private static final int MAX_SENTENCE_BYTES = 200;
    private static final int MAX_FIT_BYTES = 40;
    private static final int MAX_LOG_LINES = 40;
    private static final int MAX_ONES = 20;
    private static final int MAX_WITHIN = 8;

    private static final int KEPT_ACTS = 8;
    private static final int IMAGES = 2;
    private static final int MAX_DRAWS = 40;
    private static final int ODDS_DRAWS = 20;
    private static final int NO_FIT = NONE - 100;
    private static final int NO_SUCH_LIVES = -1000;

    private static final int CROSSING = 0;
    private static final int RAISING = 1;
    private static final int HIRING = 2;
    private static final int LYING = 3;
    private static final int TURNING = 4;

    private final Tape tape;
    private final FerryText ferryText;
    private final LogText logText;
    private final SentenceText sentenceText;
    private final World world;
    private final Scene spare;
    private final Search search;
    private final Scene[] history;
    private int oldestKept;
    private int kept;
    private final World[] images;
    private int imaged;
    private int latestFault;
    private int leastFit;
    private int greatestFit;
    private final int[] mates;
    private final int[] latestLog;

    public OpinionFerry() {
        tape = new Tape();
        ferryText = new FerryText(tape);
        logText = new LogText(tape);
        sentenceText = new SentenceText(tape);
        world = new World();
        spare = new Scene();
        search = new Search();
        history = new Scene[KEPT_ACTS];
        for (int i = 0; i < KEPT_ACTS; i++) {
            history[i] = new Scene();
        }
        images = new World[IMAGES];
        for (int i = 0; i < IMAGES; i++) {
            images[i] = new World();
        }
        leastFit = NO_FIT;
        greatestFit = NO_FIT;
        mates = new int[MAX_MEN];
        Arrays.fill(mates, NONE);
        latestLog = new int[4];
        Arrays.fill(latestLog, NONE);
    }

    public int feed(int a, int b, int c, int d, int e) {
        if (tape.length + FED_BYTES > MAX_TAPE) {
            return NONE;
        }
        tape.addNumber(a);
        tape.addNumber(b);
        tape.addNumber(c);
        tape.addNumber(d);
        tape.addNumber(e);
        return tape.length;
    }

    public boolean end(int n) {
        if (n < 0 || n > tape.length) {
            return false;
        }
        tape.length = n;
        return true;
    }

    public int ferry() {
        boolean sound = ferryText.read();
        latestFault = ferryText.faultKind;
        tape.length = 0;
        if (!sound) {
            return -1 - tape.at;
        }
        world.begin(ferryText.plan);
        kept = 0;
        return ferryText.lines;
    }

    public int fault() {
        return latestFault;
    }

    public int man(int m, int what) throws NoSuchElementException {
        if (!world.hasMan(m)) {
            throw new NoSuchElementException();
        }
        switch (what) {
            case 0:
                return bit(world.scene.over, m);
            case 1:
                return world.plan.wage[m];
            case 2:
                return bit(world.scene.hired, m);
            case 3:
                return bit(world.scene.wet, m);
            case 4:
                return world.plan.parent[m];
            case 5:
                return world.scene.rides[m];
            case 6:
                return world.plan.kin[m];
            case 7:
                return world.scene.lies[m];
            default:
                throw new NoSuchElementException();
        }
    }

    public int thinks(int m, int a) throws NoSuchElementException {
        if (!world.hasMan(m) || !world.hasAsk(a)) {
            throw new NoSuchElementException();
        }
        return world.scene.thought[m * MAX_ASKS + a];
    }

    public int says(int m, int a) throws NoSuchElementException {
        if (!world.hasMan(m) || !world.hasAsk(a)) {
            throw new NoSuchElementException();
        }
        return world.spoken(m, a);
    }

    public int now(int what) {
        Scene scene = world.scene;
        switch (what) {
            case 0:
                return scene.boat;
            case 1:
                return scene.raised;
            case 2:
                return scene.coin;
            case 3:
                return scene.crossings;
            case 4:
                return scene.over;
            case 5:
                return scene.wet;
            case 6:
                return world.partedKin();
            case 7:
                return scene.hired;
            default:
                return NONE;
        }
    }

    public int why(int set) {
        return world.hasSet(set) ? world.whyStay(set) : NONE;
    }

    public int cross(int set) {
        return world.hasSet(set) ? attempt(CROSSING, set, NONE, 0) : NONE;
    }

    public int raise(int a) {
        return world.hasAsk(a) ? attempt(RAISING, NONE, a, 0) : NONE;
    }

    public int hire(int m) {
        return world.hasMan(m) ? attempt(HIRING, m, NONE, 0) : NONE;
    }

    public int lie(int m, int a, int so) {
        return canSpeak(m, a, so) ? attempt(LYING, m, a, so) : NONE;
    }

    public int turn(int m, int a, int so) {
        return canSpeak(m, a, so) ? attempt(TURNING, m, a, so) : NONE;
    }

    public int undo() {
        if (kept <= 0) {
            return NONE;
        }
        kept--;
        world.scene.copyFrom(history[(oldestKept + kept) % KEPT_ACTS]);
        return kept;
    }

    public int sum(int set) throws NoSuchElementException {
        if (!canSum(set)) {
            throw new NoSuchElementException();
        }
        return world.together(set, world.scene.raised);
    }

    public int crews(int k) {
        int found = 0;
        int here = lookForCrews();
        for (int set = 1; set <= here; set++) {
            if (search.isCrew(set, here)) {
                if (found == k) {
                    return set;
                }
                found++;
            }
        }
        return k == NONE ? found : NONE;
    }

    public int largest() {
        int most = 0;
        int crew = NONE;
        int here = lookForCrews();
        for (int set = 1; set <= here; set++) {
            if (search.isCrew(set, here) && Integer.bitCount(set) > most) {
                most = Integer.bitCount(set);
                crew = set;
            }
        }
        return crew;
    }

    public int stuck() {
        int moving = 0;
        int here = lookForCrews();
        for (int set = 1; set <= here; set++) {
            if (search.isCrew(set, here)) {
                moving |= set;
            }
        }
        return world.here() & ~moving;
    }

    public int trips(int a) {
        return world.hasAsk(a) ? search.fewestTrips(world, a) : NONE;
    }

    public int next() {
        if (world.plan.asks == 0) {
            return NONE;
        }
        return search.firstOfTrips(world, world.scene.raised);
    }

    public int best() {
        int ask = NONE;
        int fewest = NONE;
        for (int a = 0; a < world.plan.asks; a++) {
            int count = search.fewestTrips(world, a);
            if (count != NONE && (ask == NONE || count < fewest)) {
                ask = a;
                fewest = count;
            }
        }
        return ask;
    }

    public int easy() {
        int asks = 0;
        int here = world.here();
        for (int a = 0; a < world.plan.asks; a++) {
            if (world.isLevel(world.together(here, a))) {
                asks |= 1 << a;
            }
        }
        return asks;
    }

    public int changed(int set) {
        if (!canSum(set)) {
            return NONE;
        }
        int ask = world.scene.raised;
        int total = world.together(set, ask);
        if (world.isLevel(total)) {
            return NONE;
        }
        int speakers = set & ~world.scene.hired;
        int turncoats = 0;
        for (int m = 0; m < world.plan.men; m++) {
            if (bit(speakers, m) == 1 && world.isLevel(total - 2 * world.spoken(m, ask))) {
                turncoats |= 1 << m;
            }
        }
        return turncoats;
    }

    public int fits(int m) {
        int bytes = tape.length;
        tape.length = 0;
        if (!world.hasMan(m) || world.plan.asks == 0 || !holdsSets(bytes)) {
            return NONE;
        }
        int ways = 0;
        int least = NO_FIT;
        int greatest = NO_FIT;
        for (int so = -MAX_FIRM; so <= MAX_FIRM; so++) {
            if (wouldFit(m, so, bytes)) {
                least = ways == 0 ? so : least;
                greatest = so;
                ways++;
            }
        }
        if (ways > 0) {
            leastFit = least;
            greatestFit = greatest;
        }
        return ways;
    }

    public int fit(int what) {
        switch (what) {
            case 0:
                return leastFit;
            case 1:
                return greatestFit;
            default:
                return NO_FIT;
        }
    }

    public int couples() {
        Arrays.fill(mates, NONE);
        return world.plan.asks == 0 ? 0 : search.pairUp(world, mates);
    }

    public int couple(int m) {
        return world.hasMan(m) ? mates[m] : NONE;
    }

    public int doubters(int set) {
        return canSum(set) ? search.cheapestDoubters(world, set) : NONE;
    }

    public int jokes(int set, int what) throws NoSuchElementException {
        if (!canSum(set) || what < 0 || what > 1) {
            throw new NoSuchElementException();
        }
        int jokers = Integer.bitCount(set & ~world.scene.hired);
        int above = waysToBalance(jokers, world.together(set, world.scene.raised));
        int below = 1 << (2 * jokers);
        for (int i = 0; i < 2 * jokers && above % 2 == 0; i++) {
            above /= 2;
            below /= 2;
        }
        return what == 0 ? above : below;
    }

    public int foes(int k) {
        int found = 0;
        for (int i = 0; i < world.plan.men; i++) {
            for (int j = i + 1; j < world.plan.men; j++) {
                if (world.areFoes(i, j)) {
                    if (found == k) {
                        return 10 * i + j;
                    }
                    found++;
                }
            }
        }
        return k == NONE ? found : NONE;
    }

    public int drawn(int n, int seed) {
        if (n < 1 || n > MAX_DRAWS || world.plan.men == 0) {
            return NONE;
        }
        remember();
        return world.drawTimes(n, seed);
    }

    public int odds(int m, int n, int seed) {
        if (!world.hasMan(m) || n < 1 || n > MAX_DRAWS) {
            return NONE;
        }
        int times = 0;
        spare.copyFrom(world.scene);
        for (int i = 0; i < n; i++) {
            world.drawTimes(ODDS_DRAWS, seed + i);
            times += bit(world.scene.over, m);
            world.scene.copyFrom(spare);
        }
        return times;
    }

    public int log(int lives) {
        if (lives != 0 && lives != 1) {
            return NO_SUCH_LIVES;
        }
        boolean sound = logText.read(world.plan);
        latestFault = logText.faultKind;
        tape.length = 0;
        if (!sound) {
            return -2 - tape.at;
        }
        if (lives == 1) {
            remember();
        } else {
            spare.copyFrom(world.scene);
        }
        int wrongLine = liveLog();
        if (lives == 0) {
            world.scene.copyFrom(spare);
        }
        return wrongLine;
    }

    public int logged(int what) {
        return what < 0 || what >= latestLog.length ? NONE : latestLog[what];
    }

    public int sentence() {
        boolean sound = sentenceText.read(world.plan);
        latestFault = sentenceText.faultKind;
        tape.length = 0;
        if (!sound) {
            return -1 - tape.at;
        }
        world.sentence.copyFrom(sentenceText.draft);
        return sentenceText.ones;
    }

    public int said(int k) {
        if (world.sentence.length == 0) {
            return NONE;
        }
        int fitting = world.sentence.menOf(world);
        int found = 0;
        for (int m = 0; m < world.plan.men; m++) {
            if (bit(fitting, m) == 1) {
                if (found == k) {
                    return m;
                }
                found++;
            }
        }
        return k == NONE ? found : NONE;
    }

    public boolean image(int k) {
        if (k < 0 || k >= IMAGES) {
            return false;
        }
        images[k].copyFrom(world);
        imaged |= 1 << k;
        return true;
    }

    public boolean restore(int k) {
        if (k < 0 || k >= IMAGES || bit(imaged, k) == 0) {
            return false;
        }
        world.copyFrom(images[k]);
        kept = 0;
        return true;
    }

    public int count(int what) {
        switch (what) {
            case 0:
                return world.plan.asks;
            case 1:
                return world.plan.men;
            case 2:
                return world.plan.seats;
            case 3:
                return world.plan.slack;
            case 4:
                return world.plan.kinPairs;
            case 5:
                return tape.length;
            default:
                return NONE;
        }
    }

    private static int bit(int set, int place) {
        return set >> place & 1;
    }

    private boolean canSpeak(int m, int a, int so) {
        return world.hasMan(m) && world.hasAsk(a) && so >= -MAX_FIRM && so <= MAX_FIRM;
    }

    private boolean canSum(int set) {
        return world.hasSet(set) && world.plan.asks > 0;
    }

    private int attempt(int act, int who, int ask, int so) {
        int reason = world.whyNot(act, who, ask, so);
        if (reason == 0) {
            remember();
            world.perform(act, who, ask, so);
        }
        return reason;
    }

    private void remember() {
        history[(oldestKept + kept) % KEPT_ACTS].copyFrom(world.scene);
        if (kept < KEPT_ACTS) {
            kept++;
        } else {
            oldestKept = (oldestKept + 1) % KEPT_ACTS;
        }
    }

    /** Who is on the boat's bank; 0 without ASKS, as there is no crew then. */
    private int lookForCrews() {
        if (world.plan.asks == 0) {
            return 0;
        }
        search.load(world, world.scene.raised);
        return world.here();
    }

    private boolean holdsSets(int bytes) {
        if (bytes < 2 || bytes > MAX_FIT_BYTES || bytes % 2 != 0) {
            return false;
        }
        for (int i = 0; i < bytes; i += 2) {
            if (!world.hasSet(tape.pairAt(i))) {
                return false;
            }
        }
        return true;
    }

    private boolean wouldFit(int m, int so, int bytes) {
        int ask = world.scene.raised;
        int change = bit(world.scene.hired, m) == 1 ? 0 : so - world.spoken(m, ask);
        for (int i = 0; i < bytes; i += 2) {
            int set = tape.pairAt(i);
            if (bit(set, m) == 1 && !world.isLevel(world.together(set, ask) + change)) {
                return false;
            }
        }
        return true;
    }

    /** Of 4 to the power of jokers; their shifts spread as twice as many coins thrown would. */
    private int waysToBalance(int jokers, int total) {
        int ways = 0;
        int choices = 1;
        for (int heads = 0; heads <= 2 * jokers; heads++) {
            if (world.isLevel(total + heads - jokers)) {
                ways += choices;
            }
            choices = choices * (2 * jokers - heads) / (heads + 1);
        }
        return ways;
    }

    private int liveLog() {
        int crossingsAhead = world.scene.crossings;
        int reason = 0;
        int line = 0;
        while (line < logText.lines && reason == 0) {
            int act = logText.acts[line];
            int who = logText.whos[line];
            int ask = logText.asks[line];
            int so = logText.sos[line];
            int stop = world.whyNot(act, who, ask, so);
            if (stop == 0) {
                world.perform(act, who, ask, so);
                line++;
            } else {
                reason = 10 * act + stop;
            }
        }
        latestLog[0] = reason;
        latestLog[1] = line;
        latestLog[2] = world.scene.crossings - crossingsAhead;
        latestLog[3] = world.scene.over;
        return reason == 0 ? NONE : line;
    }

    /** The words that are no NAMES. */
    private enum Word {
        SEATS("seats"), SLACK("slack"), ASK("ask"), MAN("man"), YES("yes"), NO("no"),
        CHILD("child"), KIN("kin"), CROSS("cross"), RAISE("raise"), HIRE("hire"), LIES("lies"),
        TURNS("turns"), OR("or"), AND("and"), NOT("not"), OVER("over"), WET("wet"),
        HIRED("hired"), WITH("with"), FIRM("firm"), WAGE("wage"), TRIPS("trips"),
        NUMBER("number");

        private static final Word[] ALL = values();

        final long spelling;

        Word(String text) {
            long letters = 0;
            for (int i = 0; i < text.length(); i++) {
                letters = letters * Tape.LETTERS + (text.charAt(i) - 'a' + 1);
            }
            spelling = letters;
        }

        static boolean isKept(long spelling) {
            for (int i = 0; i < ALL.length; i++) {
                if (ALL[i].spelling == spelling) {
                    return true;
                }
            }
            return false;
        }
    }

    /** The bytes that came, and the TOKEN that is being looked at in them. */
    private static final class Tape {
        static final int LETTERS = 27;
        static final int END = 0;
        static final int NO_TOKEN = 1;
        static final int WORD = 2;
        static final int NUMBER = 3;
        static final int SIGN = 4;
        private static final int MAX_LETTERS = 7;
        private static final int MAX_DIGITS = 2;

        final int[] bytes = new int[MAX_TAPE];
        int length;
        int limit;
        int at;
        int behind;
        int kind;
        long spelling;
        int number;
        int sign;

        void addNumber(int number) {
            if (length + 4 > MAX_TAPE) {
                return;
            }
            for (int shift = 24; shift >= 0; shift -= 8) {
                bytes[length] = number >>> shift & 255;
                length++;
            }
        }

        int pairAt(int place) {
            return place < 0 || place + 1 >= MAX_TAPE ? 0 : bytes[place] * 256 + bytes[place + 1];
        }

        void open(int mostBytes) {
            limit = mostBytes;
            behind = 0;
            step();
        }

        /** One method, as the calls that lead here are many already. */
        void step() {
            int stop = length < limit ? length : limit;
            at = behind;
            while (at < stop && (bytes[at] == ' ' || bytes[at] == '\n')) {
                at++;
            }
            if (at >= stop) {
                // a text that is too long never ends: nobody who reads takes NO_TOKEN
                at = stop;
                kind = length > limit ? NO_TOKEN : END;
                return;
            }
            int letters = 0;
            int digits = 0;
            spelling = 0;
            number = 0;
            for (behind = at; behind < length; behind++) {
                int c = bytes[behind];
                if (c >= 'a' && c <= 'z') {
                    letters++;
                    spelling = spelling * LETTERS + (c - 'a' + 1);
                } else if (c >= '0' && c <= '9') {
                    digits++;
                    number = number * 10 + (c - '0');
                } else {
                    break;
                }
            }
            kind = NO_TOKEN;
            if (letters == 0 && digits == 0) {
                sign = bytes[at];
                behind = at + 1;
                boolean compares = sign == '<' || sign == '=' || sign == '>';
                kind = compares || sign == ';' || sign == '(' || sign == ')' ? SIGN : NO_TOKEN;
            } else if (digits == 0 && letters <= MAX_LETTERS) {
                kind = WORD;
            } else if (letters == 0 && digits <= MAX_DIGITS) {
                kind = NUMBER;
            }
        }

        boolean is(Word word) {
            return kind == WORD && spelling == word.spelling;
        }

        boolean isSigned(char c) {
            return kind == SIGN && sign == c;
        }
    }

    /** What the text of a FERRY tells: it stays as long as the FERRY does. */
    private static final class Plan {
        int seats;
        int slack;
        int asks;
        int men;
        int kinPairs;
        final int[] wage = new int[MAX_MEN];
        final int[] parent = new int[MAX_MEN];
        final int[] kin = new int[MAX_MEN];
        final int[] opinion = new int[MAX_MEN * MAX_ASKS];
        final long[] askName = new long[MAX_ASKS];
        final long[] manName = new long[MAX_MEN];

        Plan() {
            clear();
        }

        void clear() {
            seats = 4;
            slack = 0;
            asks = 0;
            men = 0;
            kinPairs = 0;
            Arrays.fill(parent, NONE);
            Arrays.fill(kin, 0);
            Arrays.fill(opinion, 0);
        }

        void copyFrom(Plan other) {
            seats = other.seats;
            slack = other.slack;
            asks = other.asks;
            men = other.men;
            kinPairs = other.kinPairs;
            System.arraycopy(other.wage, 0, wage, 0, wage.length);
            System.arraycopy(other.parent, 0, parent, 0, parent.length);
            System.arraycopy(other.kin, 0, kin, 0, kin.length);
            System.arraycopy(other.opinion, 0, opinion, 0, opinion.length);
            System.arraycopy(other.askName, 0, askName, 0, askName.length);
            System.arraycopy(other.manName, 0, manName, 0, manName.length);
        }

        int everyone() {
            return (1 << men) - 1;
        }

        int askNamed(long name) {
            for (int a = 0; a < asks; a++) {
                if (askName[a] == name) {
                    return a;
                }
            }
            return NONE;
        }

        int manNamed(long name) {
            for (int m = 0; m < men; m++) {
                if (manName[m] == name) {
                    return m;
                }
            }
            return NONE;
        }
    }

    /** All that acts can change, and so all that undoing brings back. */
    private static final class Scene {
        final int[] thought = new int[MAX_MEN * MAX_ASKS];
        final int[] told = new int[MAX_MEN * MAX_ASKS];
        final int[] lies = new int[MAX_MEN];
        final int[] rides = new int[MAX_MEN];
        int over;
        int boat;
        int hired;
        int wet;
        int raised = NONE;
        int coin;
        int crossings;

        void begin(Plan plan) {
            System.arraycopy(plan.opinion, 0, thought, 0, thought.length);
            Arrays.fill(lies, 0);
            Arrays.fill(rides, 0);
            over = 0;
            boat = 0;
            hired = 0;
            wet = 0;
            raised = plan.asks > 0 ? 0 : NONE;
            coin = 0;
            crossings = 0;
        }

        void copyFrom(Scene other) {
            System.arraycopy(other.thought, 0, thought, 0, thought.length);
            System.arraycopy(other.told, 0, told, 0, told.length);
            System.arraycopy(other.lies, 0, lies, 0, lies.length);
            System.arraycopy(other.rides, 0, rides, 0, rides.length);
            over = other.over;
            boat = other.boat;
            hired = other.hired;
            wet = other.wet;
            raised = other.raised;
            coin = other.coin;
            crossings = other.crossings;
        }
    }

    /** A FERRY with all that is so there. */
    private static final class World {
        final Plan plan = new Plan();
        final Scene scene = new Scene();
        final Sentence sentence = new Sentence();
        private int dice;

        void begin(Plan told) {
            plan.copyFrom(told);
            scene.begin(plan);
            sentence.length = 0;
        }

        void copyFrom(World other) {
            plan.copyFrom(other.plan);
            scene.copyFrom(other.scene);
            sentence.copyFrom(other.sentence);
        }

        boolean hasMan(int m) {
            return m >= 0 && m < plan.men;
        }

        boolean hasAsk(int a) {
            return a >= 0 && a < plan.asks;
        }

        boolean hasSet(int set) {
            return (set & ~plan.everyone()) == 0;
        }

        /** All who are on the boat's bank. */
        int here() {
            return scene.boat == 1 ? scene.over : plan.everyone() & ~scene.over;
        }

        /** All who are on one bank with a MAN, and himself. */
        int around(int m) {
            return bit(scene.over, m) == 1 ? scene.over : plan.everyone() & ~scene.over;
        }

        int partedKin() {
            int pairs = 0;
            for (int m = 0; m < plan.men; m++) {
                if (bit(scene.over, m) == 1) {
                    pairs += Integer.bitCount(plan.kin[m] & ~scene.over);
                }
            }
            return pairs;
        }

        /** What a MAN says on an ASK; a child says what the other one says by himself. */
        int spoken(int m, int a) {
            int other = plan.parent[m];
            boolean echoes = other != NONE && bit(scene.lies[m], a) == 0
                    && bit(scene.over, m) == bit(scene.over, other);
            int speaker = echoes ? other : m;
            int cell = speaker * MAX_ASKS + a;
            return bit(scene.lies[speaker], a) == 1 ? scene.told[cell] : scene.thought[cell];
        }

        int together(int set, int a) {
            int speakers = set & ~scene.hired;
            int total = 0;
            for (int m = 0; m < plan.men; m++) {
                if (bit(speakers, m) == 1) {
                    total += spoken(m, a);
                }
            }
            return total;
        }

        boolean isLevel(int total) {
            return total <= plan.slack && total >= -plan.slack;
        }

        boolean areFoes(int i, int j) {
            boolean unlike = false;
            boolean alike = false;
            for (int a = 0; a < plan.asks; a++) {
                int one = spoken(i, a);
                int two = spoken(j, a);
                if (Math.abs(one) >= STRONG && Math.abs(two) >= STRONG) {
                    unlike |= one > 0 != two > 0;
                    alike |= one > 0 == two > 0;
                }
            }
            return unlike && alike;
        }

        private boolean holdsFoes(int set) {
            for (int i = 0; i < plan.men; i++) {
                for (int j = i + 1; j < plan.men; j++) {
                    if (bit(set, i) == 1 && bit(set, j) == 1 && areFoes(i, j)) {
                        return true;
                    }
                }
            }
            return false;
        }

        int whyStay(int set) {
            if (set == 0 || (set & ~here()) != 0) {
                return 1;
            }
            if (Integer.bitCount(set) > plan.seats) {
                return 2;
            }
            if (plan.asks == 0 || !isLevel(together(set, scene.raised))) {
                return 3;
            }
            return holdsFoes(set) ? 4 : 0;
        }

        int whyNot(int act, int who, int ask, int so) {
            switch (act) {
                case CROSSING:
                    return whyStay(who);
                case RAISING:
                    return scene.raised == ask ? 1 : 0;
                case HIRING:
                    return bit(scene.hired, who);
                case LYING:
                    if (bit(scene.over, who) == 1) {
                        return 1;
                    }
                    return spoken(who, ask) == so ? 2 : 0;
                default:
                    return scene.thought[who * MAX_ASKS + ask] == so ? 1 : 0;
            }
        }

        void perform(int act, int who, int ask, int so) {
            switch (act) {
                case CROSSING:
                    carry(who);
                    break;
                case RAISING:
                    scene.raised = ask;
                    break;
                case HIRING:
                    scene.hired |= 1 << who;
                    scene.coin += plan.wage[who];
                    break;
                case LYING:
                    scene.lies[who] |= 1 << ask;
                    scene.told[who * MAX_ASKS + ask] = so;
                    break;
                default:
                    scene.thought[who * MAX_ASKS + ask] = so;
                    if (scene.rides[who] > 0) {
                        scene.wet |= around(who);
                    }
                    break;
            }
        }

        private void carry(int set) {
            scene.over ^= set;
            scene.boat = 1 - scene.boat;
            scene.hired &= ~set;
            scene.crossings++;
            for (int m = 0; m < plan.men; m++) {
                if (bit(set, m) == 1) {
                    scene.rides[m]++;
                    // lies are told on the near bank alone: who comes back keeps none
                    scene.lies[m] = 0;
                }
            }
        }

        /** How many crossings there were. There is a MAN at least. */
        int drawTimes(int n, int seed) {
            int ahead = scene.crossings;
            dice = seed;
            for (int i = 0; i < n; i++) {
                drawOnce();
            }
            return scene.crossings - ahead;
        }

        private void drawOnce() {
            int here = here();
            int set = 0;
            for (int m = 0; m < plan.men; m++) {
                if (bit(here, m) == 1 && draw(2) == 0) {
                    set |= 1 << m;
                }
            }
            if (whyStay(set) == 0) {
                carry(set);
                return;
            }
            int lucky = draw(plan.men);
            if (bit(scene.hired, lucky) == 0) {
                perform(HIRING, lucky, NONE, 0);
            }
        }

        private int draw(int n) {
            dice = dice * 1103515245 + 12345;
            return n > 0 ? (dice >>> 8) % n : 0;
        }
    }

    /** What may be said of MEN: operands ahead of their operators, so that no tree is needed. */
    private static final class Sentence {
        private static final int MAX_PARTS = 2 * MAX_ONES;

        private final Word[] parts = new Word[MAX_PARTS];
        private final int[] details = new int[MAX_PARTS];
        private final int[] signs = new int[MAX_PARTS];
        private final int[] stack = new int[MAX_PARTS];
        int length;

        void copyFrom(Sentence other) {
            length = other.length;
            for (int i = 0; i < length; i++) {
                parts[i] = other.parts[i];
                details[i] = other.details[i];
                signs[i] = other.signs[i];
            }
        }

        void add(Word part, int sign, int detail) {
            if (length < MAX_PARTS) {
                parts[length] = part;
                signs[length] = sign;
                details[length] = detail;
                length++;
            }
        }

        int menOf(World world) {
            int everyone = world.plan.everyone();
            int top = NONE;
            for (int i = 0; i < length; i++) {
                Word part = parts[i];
                if (part == Word.NOT && top >= 0) {
                    stack[top] = everyone & ~stack[top];
                } else if (part == Word.AND && top >= 1) {
                    top--;
                    stack[top] &= stack[top + 1];
                } else if (part == Word.OR && top >= 1) {
                    top--;
                    stack[top] |= stack[top + 1];
                } else {
                    top++;
                    stack[top] = menOfOne(world, i);
                }
            }
            return top == 0 ? stack[0] : 0;
        }

        private int menOfOne(World world, int i) {
            Word part = parts[i];
            if (part == Word.OVER) {
                return world.scene.over;
            }
            if (part == Word.WET) {
                return world.scene.wet;
            }
            if (part == Word.HIRED) {
                return world.scene.hired;
            }
            if (part == Word.WITH) {
                return world.around(details[i]);
            }
            int men = 0;
            for (int m = 0; m < world.plan.men; m++) {
                if (isTrueOf(world, i, m)) {
                    men |= 1 << m;
                }
            }
            return men;
        }

        private boolean isTrueOf(World world, int i, int m) {
            Word part = parts[i];
            int detail = details[i];
            if (part == Word.YES) {
                return world.spoken(m, detail) > 0;
            }
            if (part == Word.NO) {
                return world.spoken(m, detail) < 0;
            }
            int value = measure(world, part, m);
            switch (signs[i]) {
                case '<':
                    return value < detail;
                case '=':
                    return value == detail;
                default:
                    return value > detail;
            }
        }

        private static int measure(World world, Word part, int m) {
            if (part == Word.WAGE) {
                return world.plan.wage[m];
            }
            if (part == Word.TRIPS) {
                return world.scene.rides[m];
            }
            if (part == Word.NUMBER) {
                return m;
            }
            int ask = world.scene.raised;
            return ask == NONE ? 0 : Math.abs(world.spoken(m, ask));
        }
    }

    /** What reading any text needs; the place of a FAULT is where the tape stands then. */
    private abstract static class Text {
        static final int CANNOT_COME = 1;
        static final int BAD_NUMBER = 2;
        static final int BAD_NAME = 3;
        static final int TOO_MANY = 4;

        final Tape tape;
        int faultKind;
        int value;

        Text(Tape tape) {
            this.tape = tape;
        }

        final void open(int mostBytes) {
            faultKind = 0;
            tape.open(mostBytes);
        }

        final boolean fail(int kind) {
            faultKind = kind;
            return false;
        }

        final boolean takeSign(char c) {
            if (!tape.isSigned(c)) {
                return fail(CANNOT_COME);
            }
            tape.step();
            return true;
        }

        final boolean takeNumber(int least, int most) {
            if (tape.kind != Tape.NUMBER) {
                return fail(CANNOT_COME);
            }
            if (tape.number < least || tape.number > most) {
                return fail(BAD_NUMBER);
            }
            value = tape.number;
            tape.step();
            return true;
        }

        /** The value is 1 for yes, -1 for no. */
        final boolean takeYesOrNo() {
            if (!tape.is(Word.YES) && !tape.is(Word.NO)) {
                return fail(CANNOT_COME);
            }
            value = tape.is(Word.YES) ? 1 : -1;
            tape.step();
            return true;
        }

        /** Does not step, as the MAN may be wrong here for another reason yet. */
        final boolean seeMan(Plan plan) {
            if (tape.kind != Tape.WORD || Word.isKept(tape.spelling)) {
                return fail(CANNOT_COME);
            }
            value = plan.manNamed(tape.spelling);
            return value != NONE || fail(BAD_NAME);
        }

        /** Does not step, as the ASK may be wrong here for another reason yet. */
        final boolean seeAsk(Plan plan) {
            if (tape.kind != Tape.WORD || Word.isKept(tape.spelling)) {
                return fail(CANNOT_COME);
            }
            value = plan.askNamed(tape.spelling);
            return value != NONE || fail(BAD_NAME);
        }
    }

    private static final class FerryText extends Text {
        final Plan plan = new Plan();
        int lines;
        private boolean seatsTold;
        private boolean slackTold;

        FerryText(Tape tape) {
            super(tape);
        }

        boolean read() {
            plan.clear();
            lines = 0;
            seatsTold = false;
            slackTold = false;
            open(MAX_FERRY_BYTES);
            while (lines < MAX_TAPE && tape.kind != Tape.END) {
                if (!readLine() || !takeSign(';')) {
                    return false;
                }
                lines++;
            }
            return true;
        }

        private boolean readLine() {
            if (tape.is(Word.SEATS)) {
                return readSeats();
            }
            if (tape.is(Word.SLACK)) {
                return readSlack();
            }
            if (tape.is(Word.ASK)) {
                return readAsk();
            }
            if (tape.is(Word.MAN)) {
                return readMan();
            }
            if (tape.is(Word.CHILD)) {
                return readChild();
            }
            if (tape.is(Word.KIN)) {
                return readKin();
            }
            return fail(CANNOT_COME);
        }

        private boolean readSeats() {
            if (seatsTold) {
                return fail(BAD_NAME);
            }
            seatsTold = true;
            tape.step();
            if (!takeNumber(1, 8)) {
                return false;
            }
            plan.seats = value;
            return true;
        }

        private boolean readSlack() {
            if (slackTold) {
                return fail(BAD_NAME);
            }
            slackTold = true;
            tape.step();
            if (!takeNumber(0, 9)) {
                return false;
            }
            plan.slack = value;
            return true;
        }

        private boolean seeNewName() {
            if (tape.kind != Tape.WORD || Word.isKept(tape.spelling)) {
                return fail(CANNOT_COME);
            }
            boolean told = plan.askNamed(tape.spelling) != NONE
                    || plan.manNamed(tape.spelling) != NONE;
            return !told || fail(BAD_NAME);
        }

        private boolean readAsk() {
            if (plan.asks >= MAX_ASKS) {
                return fail(TOO_MANY);
            }
            tape.step();
            if (!seeNewName()) {
                return false;
            }
            plan.askName[plan.asks] = tape.spelling;
            plan.asks++;
            tape.step();
            return true;
        }

        private boolean readMan() {
            if (plan.men >= MAX_MEN) {
                return fail(TOO_MANY);
            }
            tape.step();
            if (!seeNewName()) {
                return false;
            }
            int m = plan.men;
            plan.manName[m] = tape.spelling;
            plan.men++;
            tape.step();
            if (!takeNumber(0, 20)) {
                return false;
            }
            plan.wage[m] = value;
            for (int i = 0; i <= MAX_ASKS && !tape.isSigned(';'); i++) {
                if (!readOpinion(m)) {
                    return false;
                }
            }
            return true;
        }

        private boolean readOpinion(int m) {
            if (!seeAsk(plan)) {
                return false;
            }
            int cell = m * MAX_ASKS + value;
            if (plan.opinion[cell] != 0) {
                return fail(BAD_NAME);
            }
            tape.step();
            if (!takeYesOrNo()) {
                return false;
            }
            int side = value;
            if (!takeNumber(1, MAX_FIRM)) {
                return false;
            }
            plan.opinion[cell] = side * value;
            return true;
        }

        private boolean readChild() {
            tape.step();
            if (!seeMan(plan)) {
                return false;
            }
            int child = value;
            if (plan.parent[child] != NONE) {
                return fail(BAD_NAME);
            }
            tape.step();
            if (!seeMan(plan)) {
                return false;
            }
            if (value == child) {
                return fail(BAD_NAME);
            }
            plan.parent[child] = value;
            tape.step();
            return true;
        }

        private boolean readKin() {
            tape.step();
            if (!seeMan(plan)) {
                return false;
            }
            int one = value;
            tape.step();
            if (!seeMan(plan)) {
                return false;
            }
            if (value == one || bit(plan.kin[one], value) == 1) {
                return fail(BAD_NAME);
            }
            plan.kin[one] |= 1 << value;
            plan.kin[value] |= 1 << one;
            plan.kinPairs++;
            tape.step();
            return true;
        }
    }

    private static final class LogText extends Text {
        int lines;
        final int[] acts = new int[MAX_LOG_LINES];
        final int[] whos = new int[MAX_LOG_LINES];
        final int[] asks = new int[MAX_LOG_LINES];
        final int[] sos = new int[MAX_LOG_LINES];

        LogText(Tape tape) {
            super(tape);
        }

        boolean read(Plan plan) {
            lines = 0;
            open(MAX_LOG_BYTES);
            for (int i = 0; i <= MAX_LOG_LINES && tape.kind != Tape.END; i++) {
                if (!readLine(plan) || !takeSign(';')) {
                    return false;
                }
                lines++;
            }
            return true;
        }

        private boolean readLine(Plan plan) {
            boolean crosses = tape.is(Word.CROSS);
            boolean raises = tape.is(Word.RAISE);
            boolean hires = tape.is(Word.HIRE);
            if (!crosses && !raises && !hires && !seeMan(plan)) {
                return false;
            }
            if (lines >= MAX_LOG_LINES) {
                return fail(TOO_MANY);
            }
            int first = value;
            tape.step();
            if (crosses) {
                return readCrossing(plan);
            }
            if (raises) {
                return readRaising(plan);
            }
            return hires ? readHiring(plan) : readSpeech(plan, first);
        }

        private boolean keep(int act, int who, int ask, int so) {
            acts[lines] = act;
            whos[lines] = who;
            asks[lines] = ask;
            sos[lines] = so;
            return true;
        }

        private boolean readCrossing(Plan plan) {
            int set = 0;
            for (int i = 0; i <= MAX_MEN && (i == 0 || !tape.isSigned(';')); i++) {
                if (!seeMan(plan)) {
                    return false;
                }
                if (bit(set, value) == 1) {
                    return fail(BAD_NAME);
                }
                set |= 1 << value;
                tape.step();
            }
            return keep(CROSSING, set, NONE, 0);
        }

        private boolean readRaising(Plan plan) {
            if (!seeAsk(plan)) {
                return false;
            }
            tape.step();
            return keep(RAISING, NONE, value, 0);
        }

        private boolean readHiring(Plan plan) {
            if (!seeMan(plan)) {
                return false;
            }
            tape.step();
            return keep(HIRING, value, NONE, 0);
        }

        private boolean readSpeech(Plan plan, int who) {
            boolean lies = tape.is(Word.LIES);
            if (!lies && !tape.is(Word.TURNS)) {
                return fail(CANNOT_COME);
            }
            tape.step();
            if (!seeAsk(plan)) {
                return false;
            }
            int ask = value;
            tape.step();
            if (!takeYesOrNo()) {
                return false;
            }
            int side = value;
            if (!takeNumber(0, MAX_FIRM)) {
                return false;
            }
            return keep(lies ? LYING : TURNING, who, ask, side * value);
        }
    }

    private static final class SentenceText extends Text {
        final Sentence draft = new Sentence();
        int ones;
        private Plan plan;

        SentenceText(Tape tape) {
            super(tape);
        }

        boolean read(Plan told) {
            plan = told;
            draft.length = 0;
            ones = 0;
            open(MAX_SENTENCE_BYTES);
            if (!readCond(1)) {
                return false;
            }
            return tape.kind == Tape.END || fail(CANNOT_COME);
        }

        private boolean readCond(int depth) {
            if (!readAll(depth)) {
                return false;
            }
            for (int i = 0; i <= MAX_ONES && tape.is(Word.OR); i++) {
                tape.step();
                if (!readAll(depth)) {
                    return false;
                }
                draft.add(Word.OR, 0, 0);
            }
            return true;
        }

        private boolean readAll(int depth) {
            if (!readOne(depth)) {
                return false;
            }
            for (int i = 0; i <= MAX_ONES && tape.is(Word.AND); i++) {
                tape.step();
                if (!readOne(depth)) {
                    return false;
                }
                draft.add(Word.AND, 0, 0);
            }
            return true;
        }

        private boolean readOne(int depth) {
            Word first = firstWord();
            if (first == null && !tape.isSigned('(')) {
                return fail(CANNOT_COME);
            }
            if (ones >= MAX_ONES || depth > MAX_WITHIN) {
                return fail(TOO_MANY);
            }
            ones++;
            tape.step();
            if (first == null) {
                return readCond(depth + 1) && takeSign(')');
            }
            if (first == Word.NOT) {
                if (!readOne(depth + 1)) {
                    return false;
                }
                draft.add(Word.NOT, 0, 0);
                return true;
            }
            return readPlainOne(first);
        }

        /** The WORD that a ONE can begin with; null for another TOKEN. */
        private Word firstWord() {
            if (tape.is(Word.NOT)) {
                return Word.NOT;
            }
            if (tape.is(Word.OVER)) {
                return Word.OVER;
            }
            if (tape.is(Word.WET)) {
                return Word.WET;
            }
            if (tape.is(Word.HIRED)) {
                return Word.HIRED;
            }
            if (tape.is(Word.WITH)) {
                return Word.WITH;
            }
            if (tape.is(Word.YES)) {
                return Word.YES;
            }
            return tape.is(Word.NO) ? Word.NO : firstMeasure();
        }

        private Word firstMeasure() {
            if (tape.is(Word.FIRM)) {
                return Word.FIRM;
            }
            if (tape.is(Word.WAGE)) {
                return Word.WAGE;
            }
            if (tape.is(Word.TRIPS)) {
                return Word.TRIPS;
            }
            return tape.is(Word.NUMBER) ? Word.NUMBER : null;
        }

        private boolean readPlainOne(Word first) {
            int sign = 0;
            value = 0;
            if (first == Word.WITH || first == Word.YES || first == Word.NO) {
                boolean known = first == Word.WITH ? seeMan(plan) : seeAsk(plan);
                if (!known) {
                    return false;
                }
                tape.step();
            } else if (first != Word.OVER && first != Word.WET && first != Word.HIRED) {
                if (!tape.isSigned('<') && !tape.isSigned('=') && !tape.isSigned('>')) {
                    return fail(CANNOT_COME);
                }
                sign = tape.sign;
                tape.step();
                if (!takeNumber(0, 99)) {
                    return false;
                }
            }
            draft.add(first, sign, value);
            return true;
        }
    }

    /** Tables over all sets, filled anew by each call that looks through them. */
    private static final class Search {
        private static final int FAR_BOAT = SETS;

        private final int[] totals = new int[SETS];
        private final boolean[] calm = new boolean[SETS];
        private final boolean[] able = new boolean[SETS];
        private final int[] distance = new int[2 * SETS];
        private final int[] queue = new int[2 * SETS];

        /** What each set says on an ASK that there is, whether it is without foes, and can cross. */
        void load(World world, int ask) {
            totals[0] = 0;
            calm[0] = true;
            able[0] = false;
            for (int m = 0; m < world.plan.men; m++) {
                int self = 1 << m;
                int says = world.together(self, ask);
                int foes = foesAhead(world, m);
                for (int rest = 0; rest < self; rest++) {
                    int set = self | rest;
                    totals[set] = totals[rest] + says;
                    calm[set] = calm[rest] && (foes & rest) == 0;
                    able[set] = calm[set] && world.isLevel(totals[set])
                            && Integer.bitCount(set) <= world.plan.seats;
                }
            }
        }

        private static int foesAhead(World world, int m) {
            int foes = 0;
            for (int other = 0; other < m; other++) {
                if (world.areFoes(other, m)) {
                    foes |= 1 << other;
                }
            }
            return foes;
        }

        boolean isCrew(int set, int here) {
            return (set & ~here) == 0 && able[set];
        }

        int fewestTrips(World world, int ask) {
            int everyone = world.plan.everyone();
            if (world.scene.over == everyone) {
                return 0;
            }
            load(world, ask);
            return measureFromEnd(everyone, stateOf(world));
        }

        int firstOfTrips(World world, int ask) {
            int fewest = fewestTrips(world, ask);
            if (fewest <= 0) {
                return fewest;
            }
            int here = world.here();
            int state = stateOf(world);
            for (int crew = 1; crew <= here; crew++) {
                if (isCrew(crew, here) && distance[state ^ crew ^ FAR_BOAT] == fewest - 1) {
                    return crew;
                }
            }
            return NONE;
        }

        private static int stateOf(World world) {
            return world.scene.boat == 1 ? world.scene.over | FAR_BOAT : world.scene.over;
        }

        /** A crew that can go can come back, so the way from the end is the way to it. */
        private int measureFromEnd(int everyone, int start) {
            Arrays.fill(distance, NONE);
            int goal = everyone | FAR_BOAT;
            distance[goal] = 0;
            queue[0] = goal;
            int tail = 1;
            for (int head = 0; head < tail && distance[start] == NONE; head++) {
                tail = spread(queue[head], everyone, tail);
            }
            return distance[start];
        }

        private int spread(int state, int everyone, int tail) {
            int over = state & everyone;
            int here = state >= FAR_BOAT ? over : everyone & ~over;
            int end = tail;
            for (int crew = here; crew > 0; crew = (crew - 1) & here) {
                int then = state ^ crew ^ FAR_BOAT;
                if (able[crew] && distance[then] == NONE && end < queue.length) {
                    distance[then] = distance[state] + 1;
                    queue[end] = then;
                    end++;
                }
            }
            return end;
        }

        private boolean canPair(World world, int i, int j) {
            int pair = 1 << i | 1 << j;
            return calm[pair] && world.isLevel(totals[pair]);
        }

        /** How many pairs there are at most; the mates are NONE at first. */
        int pairUp(World world, int[] mates) {
            load(world, world.scene.raised);
            int[] most = distance;
            countPairs(world, most);
            int left = world.plan.everyone();
            int pairs = most[left];
            for (int m = 0; m < world.plan.men; m++) {
                if (bit(left, m) == 1) {
                    left ^= 1 << m;
                    int mate = firstMate(world, m, left, most);
                    if (mate != NONE) {
                        left ^= 1 << mate;
                        mates[m] = mate;
                        mates[mate] = m;
                    }
                }
            }
            return pairs;
        }

        private void countPairs(World world, int[] most) {
            most[0] = 0;
            for (int m = 0; m < world.plan.men; m++) {
                int self = 1 << m;
                for (int rest = 0; rest < self; rest++) {
                    int best = most[rest];
                    for (int other = 0; other < m; other++) {
                        if (bit(rest, other) == 1 && canPair(world, other, m)) {
                            best = Math.max(best, 1 + most[rest ^ 1 << other]);
                        }
                    }
                    most[self | rest] = best;
                }
            }
        }

        private int firstMate(World world, int m, int others, int[] most) {
            for (int mate = m + 1; mate < world.plan.men; mate++) {
                if (bit(others, mate) == 1 && canPair(world, m, mate)
                        && 1 + most[others ^ 1 << mate] == most[others | 1 << m]) {
                    return mate;
                }
            }
            return NONE;
        }

        int cheapestDoubters(World world, int set) {
            load(world, world.scene.raised);
            int free = set & ~world.scene.hired;
            int cheapest = free;
            int price = priceOf(world, free);
            for (int some = 0; some < free; some++) {
                if ((some & ~free) == 0 && world.isLevel(totals[set & ~some])) {
                    int other = priceOf(world, some);
                    if (other < price) {
                        cheapest = some;
                        price = other;
                    }
                }
            }
            return cheapest;
        }

        /** WAGES first, then how many: fewer than a hundred, so one number orders both. */
        private static int priceOf(World world, int some) {
            int wages = 0;
            for (int m = 0; m < world.plan.men; m++) {
                if (bit(some, m) == 1) {
                    wages += world.plan.wage[m];
                }
            }
            return 100 * wages + Integer.bitCount(some);
        }
    }
}
