import java.util.Arrays;

/**
 * A coil of wire that walks down stairs. ../shared/DOC.md says what each call answers; the words
 * in capitals here (STEP, MAT, VIGOUR, FLIP, RUN ..) are that document's.
 */
public final class CoilStairs {
    public static final int BAD = -1, STATE = -2, FULL = -3, NONE = -9;
    public static final int NO = -1000000;

    private static final int MOST_LETTERS = 100;
    private static final int LAST_LETTER = 255;
    private static final int BEFORE_FAULT = -10;

    private static final int MOST_STEPS = 9;
    private static final int MOST_HIGH = 9;
    private static final int MOST_DEEP = 9;
    private static final int MOST_MAT = 5;
    private static final int MOST_LONG = 9;
    private static final int MOST_STIFF = 9;
    private static final int MOST_DRAG = 3;
    private static final int FIRST_LONG = 4;
    private static final int FIRST_STIFF = 3;
    private static final int FIRST_DRAG = 1;

    private static final int MOST_VIGOUR = 99;
    private static final int MOST_FLIPS = 999;
    private static final int MOST_PUSHED = 20;
    private static final int MOST_TRIED = 60;
    private static final int MOST_AHEAD = 9;
    private static final int MOST_UNDONE = 10;
    private static final int MOST_SEEN = 6;
    private static final int MOST_WAYS = MOST_STIFF * (MOST_DRAG + 1);
    private static final int ODDS_OF = 10;
    private static final int IMAGES = 2;

    private final Plan plan;
    private final Reader reader;
    private final Moment present;
    private final History history;
    private final Moment[] images;
    private final boolean[] imageKept;
    private final Walk walk;
    private final LeastPushes leastPushes;
    private final Clues clues;
    private final Chances chances;
    private long traced;

    public CoilStairs() {
        plan = new Plan();
        reader = new Reader();
        present = new Moment();
        history = new History();
        images = new Moment[IMAGES];
        for (int i = 0; i < IMAGES; i++) {
            images[i] = new Moment();
        }
        imageKept = new boolean[IMAGES];
        walk = new Walk(plan);
        leastPushes = new LeastPushes(walk);
        clues = new Clues(walk);
        chances = new Chances(walk);
        traced = 0;
    }

    // ---- the stairs

    public int type(int letter) {
        if (!within(letter, 0, LAST_LETTER)) {
            return BAD;
        }
        return reader.take((char) letter) ? reader.letters : FULL;
    }

    public int clear() {
        int had = reader.letters;
        reader.letters = 0;
        return had;
    }

    public int stairs() {
        if (!reader.read()) {
            return BEFORE_FAULT - reader.fault;
        }
        plan.copy(reader.draft);
        present.begin(plan);
        history.known = 0;
        clues.seen = 0;
        for (int i = 0; i < IMAGES; i++) {
            imageKept[i] = false;
        }
        reader.letters = 0;
        return reader.items;
    }

    public int step(int s, int what) {
        if (!plan.has(s)) {
            return BAD;
        }
        switch (what) {
            case 0: return plan.high[s];
            case 1: return plan.deep[s];
            case 2: return present.mats[s];
            default: return BAD;
        }
    }

    public int now(int what) {
        switch (what) {
            case 0: return present.place;
            case 1: return present.vigour;
            case 2: return present.flipped;
            case 3: return runFrom(present.vigour);
            case 4: runFrom(present.vigour); return walk.flipped;
            case 5: runFrom(present.vigour); return walk.slipped;
            case 6: return leastPushes.from(present) / 10;
            case 7: return leastPushes.from(present) % 10;
            case 8: return history.known;
            default: return BAD;
        }
    }

    // ---- what is done

    public int flips() {
        if (!plan.has(present.place) || present.vigour == 0 || present.flipped >= MOST_FLIPS) {
            return STATE;
        }
        history.remember(present);
        walk.prepare(present);
        walk.stand(present.place, present.vigour);
        walk.turn();
        present.place = walk.place;
        present.vigour = walk.vigour;
        present.flipped++;
        return present.place;
    }

    public int pushes(int k) {
        if (!within(k, 1, MOST_PUSHED)) {
            return BAD;
        }
        if (!plan.has(present.place)) {
            return STATE;
        }
        history.remember(present);
        present.vigour = asVigour(present.vigour + k);
        return present.vigour;
    }

    public int lifts(int s) {
        if (!plan.has(s)) {
            return BAD;
        }
        if (present.place == s) {
            return STATE;
        }
        history.remember(present);
        int before = present.place;
        present.place = s;
        present.vigour = 0;
        return before;
    }

    public int lays(int s, int mat) {
        if (!plan.has(s) || !within(mat, 0, MOST_MAT)) {
            return BAD;
        }
        int before = present.mats[s];
        if (before == mat) {
            return STATE;
        }
        history.remember(present);
        present.mats[s] = mat;
        return before;
    }

    public int undo() {
        return history.restore(present) ? history.known : STATE;
    }

    // ---- what is best

    public int push(int place) {
        if (!plan.hasPlace(place)) {
            return BAD;
        }
        for (int k = 0; k <= MOST_TRIED; k++) {
            if (runFrom(asVigour(present.vigour + k)) == place) {
                return k;
            }
        }
        return NONE;
    }

    public int mat(int place, int n) {
        if (!plan.hasPlace(place) || !within(n, 0, MOST_MAT)) {
            return BAD;
        }
        for (int s = 0; s < plan.steps; s++) {
            if (runWithMat(s, n) == place) {
                return s;
            }
        }
        return NONE;
    }

    public int odds(int x, int what) {
        if (!within(x, 0, ODDS_OF) || !within(what, 0, 1)) {
            return BAD;
        }
        chances.weigh(present, x);
        return (int) (what == 0 ? chances.upper : chances.lower);
    }

    // ---- how stiff it is

    public int sees(int s, int v, int place) {
        if (!plan.has(s) || !within(v, 1, MOST_TRIED) || !plan.hasPlace(place)) {
            return BAD;
        }
        return clues.add(s, v, place) ? clues.seen : FULL;
    }

    public int forget() {
        int had = clues.seen;
        clues.seen = 0;
        return had;
    }

    public int ways(int what) {
        if (!within(what, 0, 1)) {
            return BAD;
        }
        clues.findPossible(present);
        if (what == 0) {
            return clues.possible;
        }
        return clues.possible == 0 ? NONE : tenTimes(clues.stiffs[0], clues.drags[0]);
    }

    public int next(int s) {
        if (!plan.has(s)) {
            return BAD;
        }
        clues.findPossible(present);
        return clues.bestTry(s);
    }

    // ---- kinds, images

    public int rate(int kind, int s) {
        if (!plan.has(s)) {
            return NO;
        }
        switch (kind) {
            case 0: return asCoil(s);
            case 1: return asBrass(s);
            case 2: return asPaper(s);
            case 3: return asSilver(s);
            case 4: return asTwine(s);
            case 5: return asLead(s);
            default: return NO;
        }
    }

    public int keep(int image) {
        if (!within(image, 0, IMAGES - 1)) {
            return BAD;
        }
        images[image].copy(present);
        imageKept[image] = true;
        return present.place;
    }

    public int back(int image) {
        if (!within(image, 0, IMAGES - 1)) {
            return BAD;
        }
        if (!imageKept[image]) {
            return STATE;
        }
        present.copy(images[image]);
        history.known = 0;
        return present.place;
    }

    public int count(int what) {
        switch (what) {
            case 0: return plan.steps;
            case 1: return plan.length;
            case 2: return plan.stiff;
            case 3: return plan.drag;
            case 4: return clues.seen;
            case 5: return reader.letters;
            default: return BAD;
        }
    }

    public long trace() {
        return traced;
    }

    // ---- what the calls above share

    private static boolean within(int number, int lowest, int highest) {
        return number >= lowest && number <= highest;
    }

    private static int asVigour(int number) {
        if (number < 0) {
            return 0;
        }
        return number > MOST_VIGOUR ? MOST_VIGOUR : number;
    }

    private static int tenTimes(int tens, int ones) {
        return 10 * tens + ones;
    }

    private int runFrom(int vigour) {
        walk.prepare(present);
        return walk.run(present.place, vigour);
    }

    private int runWithMat(int s, int n) {
        walk.prepare(present);
        walk.mats[s] = n;
        return walk.run(present.place, present.vigour);
    }

    // Each KIND asks the one above it by its own body, so that THE TRACE grows by every body asked.

    private int asCoil(int s) {
        traced += 1;
        return plan.high[s];
    }

    private int asBrass(int s) {
        traced += 10;
        return asCoil(s) + plan.deep[s];
    }

    private int asPaper(int s) {
        traced += 100;
        return asCoil(s) - 2 * present.mats[s];
    }

    private int asSilver(int s) {
        traced += 1000;
        return 2 * asBrass(s);
    }

    private int asTwine(int s) {
        traced += 10000;
        return asPaper(s) + s;
    }

    private int asLead(int s) {
        traced += 100000;
        return asCoil(s) + present.vigour;
    }

    /** The STEPS and THE COIL as THE TEXT tells them; only reading anew changes them. */
    private static final class Plan {
        final int[] high = new int[MOST_STEPS];
        final int[] deep = new int[MOST_STEPS];
        final int[] mats = new int[MOST_STEPS];
        int steps;
        int length;
        int stiff;
        int drag;

        Plan() {
            empty();
        }

        void empty() {
            steps = 0;
            length = FIRST_LONG;
            stiff = FIRST_STIFF;
            drag = FIRST_DRAG;
        }

        void copy(Plan other) {
            System.arraycopy(other.high, 0, high, 0, MOST_STEPS);
            System.arraycopy(other.deep, 0, deep, 0, MOST_STEPS);
            System.arraycopy(other.mats, 0, mats, 0, MOST_STEPS);
            steps = other.steps;
            length = other.length;
            stiff = other.stiff;
            drag = other.drag;
        }

        void addStep(int itsHigh, int itsDeep, int itsMat) {
            if (steps < MOST_STEPS) {
                high[steps] = itsHigh;
                deep[steps] = itsDeep;
                mats[steps] = itsMat;
                steps++;
            }
        }

        boolean has(int s) {
            return within(s, 0, steps - 1);
        }

        /** A place is a STEP or THE FLOOR. */
        boolean hasPlace(int place) {
            return within(place, 0, steps);
        }
    }

    /** All that can be UNDONE or kept in an IMAGE. */
    private static final class Moment {
        final int[] mats = new int[MOST_STEPS];
        int place;
        int vigour;
        int flipped;

        void begin(Plan plan) {
            System.arraycopy(plan.mats, 0, mats, 0, MOST_STEPS);
            place = 0;
            vigour = 0;
            flipped = 0;
        }

        void copy(Moment other) {
            System.arraycopy(other.mats, 0, mats, 0, MOST_STEPS);
            place = other.place;
            vigour = other.vigour;
            flipped = other.flipped;
        }
    }

    /** The latest moments, in a ring: the oldest one's room is used again. */
    private static final class History {
        final Moment[] past = new Moment[MOST_UNDONE];
        int known;
        int free;

        History() {
            for (int i = 0; i < MOST_UNDONE; i++) {
                past[i] = new Moment();
            }
        }

        void remember(Moment moment) {
            past[free].copy(moment);
            free = (free + 1) % MOST_UNDONE;
            known = Math.min(MOST_UNDONE, known + 1);
        }

        boolean restore(Moment moment) {
            if (known == 0) {
                return false;
            }
            free = (free + MOST_UNDONE - 1) % MOST_UNDONE;
            moment.copy(past[free]);
            known--;
            return true;
        }
    }

    /** A way down that is only tried: whoever asks sets its MATS, STIFF and DRAG as he wants them. */
    private static final class Walk {
        final Plan plan;
        final int[] mats = new int[MOST_STEPS];
        int stiff;
        int drag;
        int place;
        int vigour;
        int flipped;
        int slipped;

        Walk(Plan itsPlan) {
            plan = itsPlan;
        }

        void prepare(Moment moment) {
            System.arraycopy(moment.mats, 0, mats, 0, MOST_STEPS);
            stiff = plan.stiff;
            drag = plan.drag;
        }

        void stand(int itsPlace, int itsVigour) {
            place = itsPlace;
            vigour = itsVigour;
            flipped = 0;
            slipped = 0;
        }

        /** A FLIP. */
        void turn() {
            if (!plan.has(place)) {
                return;
            }
            flipped++;
            if (vigour < stiff) {
                vigour = 0;
                return;
            }
            vigour = asVigour(vigour - stiff + plan.high[place] - drag);
            place++;
            land();
        }

        private void land() {
            for (int s = place; s < plan.steps; s++) {
                vigour = asVigour(vigour - mats[s]);
                if (vigour <= plan.length + plan.deep[s]) {
                    return;
                }
                slipped |= 1 << s;
                vigour = asVigour(vigour + plan.high[s] - 2 * drag - 1);
                place = s + 1;
            }
            vigour = 0;
        }

        /** RUN: a FLIP goes down or RESTS, so there are no more of them than STEPS. */
        int run(int itsPlace, int itsVigour) {
            stand(itsPlace, itsVigour);
            for (int i = 0; i < MOST_STEPS && vigour > 0 && plan.has(place); i++) {
                turn();
            }
            return place;
        }
    }

    /**
     * LEAST. What was found for a place and a VIGOUR is kept, as many ways lead to the same two:
     * ten times how much in all, and the first of it (9 at most).
     */
    private static final class LeastPushes {
        private static final int UNKNOWN = -1;
        private static final int VIGOURS = MOST_VIGOUR + 1;
        private static final int TOO_MANY = 1000;

        final Walk walk;
        final int[] found = new int[MOST_STEPS * VIGOURS];

        LeastPushes(Walk itsWalk) {
            walk = itsWalk;
        }

        int from(Moment moment) {
            walk.prepare(moment);
            Arrays.fill(found, UNKNOWN);
            return fewest(moment.place, moment.vigour);
        }

        /** Each FLIP here goes down, so it calls itself no deeper than there are STEPS. */
        private int fewest(int place, int vigour) {
            if (!walk.plan.has(place)) {
                return 0;
            }
            int key = place * VIGOURS + vigour;
            if (found[key] == UNKNOWN) {
                found[key] = search(place, vigour);
            }
            return found[key];
        }

        /** To be PUSHED by the best sum or more can't be better: what comes behind is 0 at least. */
        private int search(int place, int vigour) {
            int best = TOO_MANY;
            int first = 0;
            for (int ahead = 0; ahead <= MOST_AHEAD && ahead < best; ahead++) {
                int pushed = asVigour(vigour + ahead);
                if (pushed >= walk.stiff) {
                    walk.stand(place, pushed);
                    walk.turn();
                    int sum = ahead + fewest(walk.place, walk.vigour) / 10;
                    if (sum < best) {
                        best = sum;
                        first = ahead;
                    }
                }
            }
            return tenTimes(best, first);
        }
    }

    /** What was SEEN, and the twos of STIFF and DRAG by which it is so. */
    private static final class Clues {
        final Walk walk;
        final int[] steps = new int[MOST_SEEN];
        final int[] vigours = new int[MOST_SEEN];
        final int[] places = new int[MOST_SEEN];
        final int[] stiffs = new int[MOST_WAYS];
        final int[] drags = new int[MOST_WAYS];
        final int[] atPlace = new int[MOST_STEPS + 1];
        int seen;
        int possible;

        Clues(Walk itsWalk) {
            walk = itsWalk;
        }

        boolean add(int s, int v, int place) {
            if (seen >= MOST_SEEN) {
                return false;
            }
            steps[seen] = s;
            vigours[seen] = v;
            places[seen] = place;
            seen++;
            return true;
        }

        void findPossible(Moment moment) {
            walk.prepare(moment);
            possible = 0;
            for (int stiff = 1; stiff <= MOST_STIFF; stiff++) {
                for (int drag = 0; drag <= MOST_DRAG; drag++) {
                    if (explains(stiff, drag)) {
                        stiffs[possible] = stiff;
                        drags[possible] = drag;
                        possible++;
                    }
                }
            }
        }

        private boolean explains(int stiff, int drag) {
            walk.stiff = stiff;
            walk.drag = drag;
            for (int i = 0; i < seen; i++) {
                if (walk.run(steps[i], vigours[i]) != places[i]) {
                    return false;
                }
            }
            return true;
        }

        /** TRY, behind findPossible(). */
        int bestTry(int s) {
            if (possible <= 1) {
                return NONE;
            }
            int best = NONE;
            int fewest = possible + 1;
            for (int v = 1; v <= MOST_TRIED; v++) {
                int most = mostAtOnePlace(s, v);
                if (most < fewest) {
                    fewest = most;
                    best = v;
                }
            }
            return best;
        }

        private int mostAtOnePlace(int s, int v) {
            Arrays.fill(atPlace, 0);
            int most = 0;
            for (int i = 0; i < possible; i++) {
                walk.stiff = stiffs[i];
                walk.drag = drags[i];
                int place = walk.run(s, v);
                atPlace[place]++;
                most = Math.max(most, atPlace[place]);
            }
            return most;
        }
    }

    /** ODDS, as a fraction in least terms. */
    private static final class Chances {
        private static final int EUCLID_ROUNDS = 1000;

        final Walk walk;
        final int[] matted = new int[MOST_STEPS];
        int mats;
        long upper;
        long lower;

        Chances(Walk itsWalk) {
            walk = itsWalk;
        }

        void weigh(Moment moment, int x) {
            walk.prepare(moment);
            listMats(moment);
            upper = 0;
            lower = 1;
            for (int i = 0; i < mats; i++) {
                lower *= ODDS_OF;
            }
            for (int gone = 0; gone < 1 << mats; gone++) {
                long weight = weightOf(gone, x);
                if (weight > 0 && reachesFloor(moment, gone)) {
                    upper += weight;
                }
            }
            reduce();
        }

        /** It never lands on the STEP on which it is, nor above: MATS there make no difference. */
        private void listMats(Moment moment) {
            mats = 0;
            for (int s = moment.place + 1; s < walk.plan.steps; s++) {
                if (moment.mats[s] > 0) {
                    matted[mats] = s;
                    mats++;
                }
            }
        }

        private long weightOf(int gone, int x) {
            long weight = 1;
            for (int i = 0; i < mats; i++) {
                weight *= (gone >> i & 1) == 1 ? x : ODDS_OF - x;
            }
            return weight;
        }

        private boolean reachesFloor(Moment moment, int gone) {
            for (int i = 0; i < mats; i++) {
                int s = matted[i];
                walk.mats[s] = (gone >> i & 1) == 1 ? 0 : moment.mats[s];
            }
            return !walk.plan.has(walk.run(moment.place, moment.vigour));
        }

        private void reduce() {
            long divisor = lower;
            long rest = upper;
            for (int i = 0; i < EUCLID_ROUNDS && rest != 0; i++) {
                long behind = divisor % rest;
                divisor = rest;
                rest = behind;
            }
            if (divisor > 0) {
                upper /= divisor;
                lower /= divisor;
            }
        }
    }

    /** THE TEXT, and what it tells: read into a draft, so that a FAULT leaves all as it was. */
    private static final class Reader {
        private static final int NO_FAULT = -1;
        private static final int TOO_GREAT = 100;

        final char[] text = new char[MOST_LETTERS];
        final Plan draft = new Plan();
        int letters;
        int at;
        int items;
        int fault;
        boolean longTold;
        boolean stiffTold;
        boolean dragTold;

        boolean take(char letter) {
            if (letters >= MOST_LETTERS) {
                return false;
            }
            text[letters] = letter;
            letters++;
            return true;
        }

        boolean read() {
            draft.empty();
            at = 0;
            items = 0;
            fault = NO_FAULT;
            longTold = false;
            stiffTold = false;
            dragTold = false;
            for (int i = 0; i < MOST_LETTERS && fault == NO_FAULT && findToken(); i++) {
                readItem();
            }
            return fault == NO_FAULT;
        }

        /** Behind the last TOKEN the reader is at the text's length: the FAULT, if it ends too early. */
        private boolean findToken() {
            while (at < letters && text[at] == ' ') {
                at++;
            }
            return at < letters;
        }

        private void readItem() {
            int kind = text[at];
            if (!mayBegin(kind)) {
                fault = at;
                return;
            }
            at++;
            switch (kind) {
                case 's':
                    readStep();
                    break;
                case 'l':
                    draft.length = number(0, MOST_LONG);
                    longTold = true;
                    break;
                case 'f':
                    draft.stiff = number(1, MOST_STIFF);
                    stiffTold = true;
                    break;
                default:
                    draft.drag = number(0, MOST_DRAG);
                    dragTold = true;
                    break;
            }
            endItem();
        }

        private boolean mayBegin(int kind) {
            switch (kind) {
                case 's': return draft.steps < MOST_STEPS;
                case 'l': return !longTold;
                case 'f': return !stiffTold;
                case 'd': return !dragTold;
                default: return false;
            }
        }

        private void readStep() {
            int high = number(1, MOST_HIGH);
            int deep = number(1, MOST_DEEP);
            int itsMat = number(0, MOST_MAT);
            if (fault == NO_FAULT) {
                draft.addStep(high, deep, itsMat);
            }
        }

        /** Behind a FAULT nothing more is read: the first one counts. */
        private int number(int lowest, int highest) {
            if (fault != NO_FAULT) {
                return lowest;
            }
            findToken();
            int start = at;
            int value = 0;
            while (at < letters && within(text[at], '0', '9')) {
                value = Math.min(TOO_GREAT, value * 10 + (text[at] - '0'));
                at++;
            }
            boolean plain = at == start + 1 || at > start && text[start] != '0';
            if (!plain || !within(value, lowest, highest)) {
                fault = start;
            }
            return value;
        }

        private void endItem() {
            if (fault != NO_FAULT) {
                return;
            }
            if (findToken() && text[at] == ';') {
                at++;
                items++;
            } else {
                fault = at;
            }
        }
    }
}
