import java.util.Arrays;

/**
 * A senate whose faces together must be the nation's mood. The words in capitals are those of the
 * document (shared/DOC.md).
 *
 * <p>All rows are made in constructors and used again, so that no call makes an object.
 */
public final class FaceSenate {

    public static final int NONE = -1;

    /** The answer where NONE itself is one that may be due. */
    private static final int NOT_SUCH = -2;

    private static final int TAPE_BYTES = 1600;
    private static final int FEED_BYTES = 20;
    private static final int MOST_MEMBERS = 7;
    private static final int MOST_DISTRICTS = 4;
    private static final int MOST_SIDE = 4;
    private static final int MOST_SEATS = 16;
    private static final int MOST_FACE = 9;
    private static final int MOST_NEWS = 9;
    private static final int FACES = 10;
    private static final int MOST_STEPS = 999;
    private static final int MOST_ACTS = 40;
    private static final int MOST_BOXES = 3;
    private static final int MOST_LOOKS = 30;
    private static final int MOST_LOOK_STEPS = 6;
    private static final int MOST_TIME = 100000;
    private static final int MOST_LATER = 1000;
    private static final int FAR_STEPS = 60;
    private static final int NEAR_STEPS = 20;
    private static final int MOST_TURNS = 3;
    private static final int MOST_ODDS = 4;
    private static final int PERCENT = 100;
    private static final int SEEDS = 1000;

    private static final int MOST_UNITS = 30;
    private static final int MOST_NESTED = 7;
    private static final int MOST_LETTERS = 8;
    private static final int MOST_DIGITS = 4;

    // Kinds of TOKENS; a sign's kind is its byte, a word's of the grammar is FIRST_WORD and its place in WORDS.
    private static final int END = 0;
    private static final int NO_TOKEN = 1;
    private static final int NAME = 2;
    private static final int NUMBER = 3;
    private static final int FIRST_WORD = 256;
    private static final int HALL = 256;
    private static final int BY = 257;
    private static final int DISTRICT = 258;
    private static final int MOOD = 259;
    private static final int MEMBER = 260;
    private static final int FOR = 261;
    private static final int AT = 262;
    private static final int LOOK = 263;
    private static final int LIGHT = 264;
    private static final int TOOTH = 265;
    private static final int OF = 266;
    private static final int DRAW = 267;
    private static final int OR_WORD = 268;
    private static final int AND_WORD = 269;
    private static final int NOT_WORD = 270;
    private static final int FIRST_SEEN = 271;
    private static final int FACE_WORD = 271;
    private static final int STOIC_WORD = 275;
    private static final int WORD_COUNT = 24;
    private static final String WORDS =
            "hall by district mood member for at look light tooth of draw or and not face near beside bright stoic news step row column ";
    private static final String SIGNS = ";()<>=+-*/%";

    // Codes of a formula: what is seen (in the order of WORDS), operators, and numbers from CONSTANTS on.
    private static final int FACE = 0;
    private static final int NEAR = 1;
    private static final int BESIDE = 2;
    private static final int BRIGHT = 3;
    private static final int STOIC = 4;
    private static final int NEWS = 5;
    private static final int STEP = 6;
    private static final int ROW = 7;
    private static final int COLUMN = 8;
    private static final int SEEN_COUNT = 9;
    private static final int OR = 10;
    private static final int AND = 11;
    private static final int NOT = 12;
    private static final int LESS = 13;
    private static final int MORE = 14;
    private static final int SAME = 15;
    private static final int PLUS = 16;
    private static final int MINUS = 17;
    private static final int TIMES = 18;
    private static final int OVER = 19;
    private static final int REST = 20;
    private static final int CONSTANTS = 32;
    private static final int MOST_CODES = 320;
    private static final int MOST_STACK = 40;

    // Levels of a formula, from the loosest to the tightest.
    private static final int LEVEL_OR = 0;
    private static final int LEVEL_AND = 1;
    private static final int LEVEL_ONE = 2;
    private static final int LEVEL_SUM = 3;
    private static final int LEVEL_TERM = 4;
    private static final int LEVEL_UNIT = 5;

    private static final int FAULT_NO_TOKEN = 1;
    private static final int FAULT_MISPLACED = 2;
    private static final int FAULT_TOLD_ALREADY = 3;
    private static final int FAULT_NUMBER = 4;
    private static final int FAULT_NO_DISTRICT = 5;

    private final Reader reader = new Reader();
    private Plan plan = new Plan();
    private final Sitting now = new Sitting();
    private final Trial trial = new Trial();
    private final Acts acts = new Acts();
    private final Shelf boxes = new Shelf(MOST_BOXES);
    private final Looks told = new Looks();
    private final int[] lying = new int[MOST_MEMBERS];
    private final int[] rings = new int[MOST_MEMBERS];
    private final int[] tally = new int[FACES];
    private final int[] asked = new int[MOST_MEMBERS * (MOST_NEWS + 1)];
    private int lyingCount = 0;
    private int time = 0;
    private int faultNumber = 0;
    private int faultPlace = NONE;
    private int opening = NONE;

    public FaceSenate() {
        now.begin(plan);
    }

    // ---- the text

    public int feed(int a, int b, int c, int d, int e) {
        Tape tape = reader.tape;
        if (tape.length > TAPE_BYTES - FEED_BYTES) {
            return NONE;
        }
        tape.add(a);
        tape.add(b);
        tape.add(c);
        tape.add(d);
        tape.add(e);
        return tape.length;
    }

    public int end(int n) {
        if (n < 0 || n > reader.tape.length) {
            return NONE;
        }
        reader.tape.length = n;
        return n;
    }

    public int senate() {
        reader.read();
        faultNumber = reader.fault;
        faultPlace = reader.faultPlace;
        if (faultNumber != 0) {
            return NONE;
        }
        Plan next = reader.plan;
        reader.plan = plan;
        plan = next;
        reader.tape.length = 0;
        now.begin(plan);
        trial.forgetLight();
        acts.clear();
        boxes.clear();
        told.clear();
        lyingCount = 0;
        return plan.members;
    }

    public int fault(int what) {
        switch (what) {
            case 0:
                return faultNumber;
            case 1:
                return faultPlace;
            default:
                return NONE;
        }
    }

    // ---- what is so

    public int member(int member, int what) {
        if (!isMember(member)) {
            return NOT_SUCH;
        }
        trial.begin(plan, now);
        switch (what) {
            case 0:
                return now.faces[member];
            case 1:
                return now.seats[member];
            case 2:
                return plan.homes[member];
            case 3:
                return plan.stoics[member];
            case 4:
                return trial.beside[member];
            case 5:
                return now.facesOf(trial.beside[member]);
            case 6:
                return trial.brightAt(now.seats[member], now.step);
            default:
                return NOT_SUCH;
        }
    }

    public int district(int district, int what) {
        if (district < 0 || district >= plan.districts) {
            return NONE;
        }
        switch (what) {
            case 0:
                return plan.moods[district];
            case 1:
                return plan.membersOf(district);
            case 2:
                return now.facesOf(plan.membersOf(district));
            case 3:
                return plan.offOf(district, now);
            default:
                return NONE;
        }
    }

    public int seat(int seat, int what) {
        if (!isSeat(seat)) {
            return NOT_SUCH;
        }
        switch (what) {
            case 0:
                return now.sitterOn(seat);
            case 1:
                trial.begin(plan, now);
                return trial.brightAt(seat, now.step);
            default:
                return NOT_SUCH;
        }
    }

    public int report() {
        return now.together();
    }

    public int off() {
        return plan.offOfAll(now);
    }

    // ---- ACTS

    public int step() {
        if (now.step >= MOST_STEPS) {
            return NONE;
        }
        acts.keep(now);
        trial.begin(plan, now);
        trial.pass();
        int winced = trial.wince();
        now.take(trial.sitting);
        return winced;
    }

    public int news(int news) {
        if (!isWithin(news, MOST_NEWS) || news == now.news) {
            return NONE;
        }
        acts.keep(now);
        int before = now.news;
        now.news = news;
        return before;
    }

    public int sit(int member, int seat) {
        if (!isMember(member) || !isSeat(seat) || now.sitterOn(seat) != NONE) {
            return NONE;
        }
        acts.keep(now);
        int before = now.seats[member];
        now.seats[member] = seat;
        return before == NONE ? NOT_SUCH : before;
    }

    public boolean change(int member, int other) {
        if (!canChange(member, other)) {
            return false;
        }
        acts.keep(now);
        now.swap(member, other);
        return true;
    }

    public int unseat(int member) {
        if (!isSeated(member)) {
            return NONE;
        }
        acts.keep(now);
        int before = now.seats[member];
        now.seats[member] = NONE;
        return before;
    }

    public boolean undo() {
        return acts.takeBack(now);
    }

    public boolean redo() {
        return acts.doAgain(now);
    }

    // ---- who stands for whom

    public int stand(int member, int what) {
        if (!isMember(member) || !isPart(what)) {
            return NONE;
        }
        trial.begin(plan, now);
        int bestFace = NONE;
        int bestOff = 0;
        for (int face = 0; face <= MOST_FACE; face++) {
            trial.sitting.faces[member] = face;
            int off = plan.offOfAll(trial.sitting);
            if (bestFace == NONE || off < bestOff) {
                bestFace = face;
                bestOff = off;
            }
        }
        return what == 0 ? bestFace : bestOff;
    }

    public int sample(int n, int what) {
        if (n < 1 || n > plan.members || !isPart(what)) {
            return NONE;
        }
        int best = NONE;
        for (int set = 1; set < 1 << plan.members; set++) {
            if (Integer.bitCount(set) == n && (best == NONE || sampleOff(set, n) < sampleOff(best, n))) {
                best = set;
            }
        }
        return what == 0 ? best : now.facesOf(best);
    }

    public int samples(int n) {
        if (n < 1 || n > MOST_MEMBERS) {
            return NONE;
        }
        int count = 0;
        for (int set = 1; set < 1 << plan.members; set++) {
            if (Integer.bitCount(set) == n && sampleOff(set, n) == 0) {
                count++;
            }
        }
        return count;
    }

    private int sampleOff(int set, int n) {
        return Math.abs(now.facesOf(set) * plan.members - n * now.together());
    }

    // ---- who sees whom

    public int chain(int member, int other) {
        lyingCount = 0;
        if (!isSeated(member) || !isSeated(other)) {
            return NONE;
        }
        trial.begin(plan, now);
        int length = ringOf(member, other);
        if (length == NONE) {
            return NONE;
        }
        int at = member;
        layDown(at);
        // Each time the least one of the next nearer ring: so of like chains the first lies there.
        for (int ring = length - 1; ring >= 0; ring--) {
            at = firstOf(trial.besideOf(at) & rings[ring]);
            layDown(at);
        }
        return length;
    }

    /** Fills the rings (those who are 0, 1, .. looks from centre) up to the one in which member is. */
    private int ringOf(int member, int centre) {
        int reached = 1 << centre;
        rings[0] = reached;
        for (int ring = 0; ring < rings.length; ring++) {
            if ((rings[ring] >> member & 1) == 1) {
                return ring;
            }
            if (ring + 1 < rings.length) {
                rings[ring + 1] = trial.besideAny(rings[ring]) & ~reached;
                reached |= rings[ring + 1];
            }
        }
        return NONE;
    }

    private void layDown(int number) {
        if (lyingCount < lying.length) {
            lying[lyingCount] = number;
            lyingCount++;
        }
    }

    private static int firstOf(int bits) {
        for (int i = 0; i < MOST_MEMBERS; i++) {
            if ((bits >> i & 1) == 1) {
                return i;
            }
        }
        return NONE;
    }

    public int groups() {
        trial.begin(plan, now);
        int left = now.seated();
        int count = 0;
        for (int i = 0; i < MOST_MEMBERS && left != 0; i++) {
            left &= ~groupOf(firstOf(left));
            count++;
        }
        return count;
    }

    private int groupOf(int member) {
        int group = member < 0 ? 0 : 1 << member;
        for (int i = 0; i < MOST_MEMBERS; i++) {
            group |= trial.besideAny(group);
        }
        return group;
    }

    // ---- where to seat whom

    public int place(int member, int what) {
        if (!isMember(member) || !isPart(what)) {
            return NONE;
        }
        int bestSeat = NONE;
        int bestReport = NONE;
        for (int seat = 0; seat < plan.seatCount(); seat++) {
            int sitter = now.sitterOn(seat);
            if (sitter == NONE || sitter == member) {
                int then = reportSeated(member, seat);
                if (then > bestReport) {
                    bestSeat = seat;
                    bestReport = then;
                }
            }
        }
        return what == 0 ? bestSeat : bestReport;
    }

    private int reportSeated(int member, int seat) {
        trial.begin(plan, now);
        trial.sitting.seats[member] = seat;
        trial.arrange();
        trial.pass();
        return trial.sitting.together();
    }

    public int move(int what) {
        int bestOne = NONE;
        int bestOther = NONE;
        int bestReport = NONE;
        for (int one = 0; one < plan.members; one++) {
            for (int other = one + 1; other < plan.members; other++) {
                int then = canChange(one, other) ? reportChanged(one, other) : NONE;
                if (then > bestReport) {
                    bestOne = one;
                    bestOther = other;
                    bestReport = then;
                }
            }
        }
        switch (what) {
            case 0:
                return bestOne;
            case 1:
                return bestOther;
            case 2:
                return bestReport;
            default:
                return NONE;
        }
    }

    private int reportChanged(int one, int other) {
        trial.begin(plan, now);
        trial.sitting.swap(one, other);
        trial.arrange();
        trial.pass();
        return trial.sitting.together();
    }

    public int brightest() {
        trial.begin(plan, now);
        int bestSeat = NONE;
        int most = NONE;
        for (int seat = 0; seat < plan.seatCount(); seat++) {
            if (now.sitterOn(seat) == NONE && trial.brightAt(seat, now.step) > most) {
                bestSeat = seat;
                most = trial.brightAt(seat, now.step);
            }
        }
        return bestSeat;
    }

    // ---- what STEPS bring

    public int settled() {
        trial.begin(plan, now);
        for (int n = 0; n <= FAR_STEPS; n++) {
            if (trial.pass() == 0) {
                return n;
            }
        }
        return NONE;
    }

    public int will(int member, int n) {
        if (!isMember(member) || !isWithin(n, FAR_STEPS)) {
            return NONE;
        }
        trial.begin(plan, now);
        for (int i = 0; i < n; i++) {
            trial.pass();
            trial.wince();
        }
        return trial.sitting.faces[member];
    }

    public int ahead(int n) {
        if (!isWithin(n, FAR_STEPS)) {
            return NONE;
        }
        trial.begin(plan, now);
        trial.passAll(n);
        return trial.sitting.together();
    }

    public int alike() {
        if (plan.members == 0) {
            return NONE;
        }
        trial.begin(plan, now);
        for (int n = 0; n <= FAR_STEPS; n++) {
            if (trial.allAlike()) {
                return n;
            }
            trial.pass();
        }
        return NONE;
    }

    public int unrest(int n) {
        if (!isWithin(n, FAR_STEPS)) {
            return NONE;
        }
        trial.begin(plan, now);
        int count = 0;
        for (int i = 0; i < n; i++) {
            count += Integer.bitCount(trial.pass());
        }
        return count;
    }

    public int sways(int member, int face, int n) {
        if (!isMember(member) || !isWithin(face, MOST_FACE) || !isWithin(n, NEAR_STEPS)) {
            return NONE;
        }
        trial.begin(plan, now);
        trial.passAll(n);
        trial.keepFaces(0);
        trial.begin(plan, now);
        trial.sitting.faces[member] = face;
        trial.passAll(n);
        return trial.unlikeKept(0);
    }

    public int moved(int what) {
        trial.begin(plan, now);
        trial.pass();
        int more = 0;
        int less = 0;
        for (int m = 0; m < plan.members; m++) {
            int by = trial.sitting.faces[m] - now.faces[m];
            more |= by > 0 ? 1 << m : 0;
            less |= by < 0 ? 1 << m : 0;
        }
        switch (what) {
            case 0:
                return more;
            case 1:
                return less;
            case 2:
                return (1 << plan.members) - 1 & ~(more | less);
            default:
                return NONE;
        }
    }

    public int key() {
        int best = NONE;
        int least = 0;
        for (int m = 0; m < plan.members; m++) {
            trial.begin(plan, now);
            trial.sitting.faces[m] = 0;
            trial.pass();
            int then = trial.sitting.together();
            if (best == NONE || then < least) {
                best = m;
                least = then;
            }
        }
        return best;
    }

    // ---- NEWS

    public int parties(int n, int what) {
        if (n < 1 || n > MOST_TURNS || !isPart(what)) {
            return NONE;
        }
        trial.begin(plan, now);
        int report = turn(0, n, NONE, MOST_MEMBERS * FACES);
        return what == 0 ? report : opening;
    }

    /**
     * The REPORT behind n STEPS, made of which are done, if both do their best from here on. What is
     * not above low, or not below high, is of no use any more to the one who chose ahead of this.
     */
    private int turn(int made, int n, int low, int high) {
        if (made >= n || made >= MOST_TURNS) {
            return trial.sitting.together();
        }
        boolean first = made % 2 == 0;
        trial.keepFaces(made);
        int best = NONE;
        for (int news = 0; news <= MOST_NEWS && low < high; news++) {
            trial.takeKept(made);
            trial.sitting.step = now.step + made;
            trial.sitting.news = news;
            trial.pass();
            int then = turn(made + 1, n, low, high);
            if (best == NONE || (first ? then > best : then < best)) {
                best = then;
                if (made == 0) {
                    opening = news;
                }
            }
            low = first ? Math.max(low, best) : low;
            high = first ? high : Math.min(high, best);
        }
        return best;
    }

    public int least(int report, int n) {
        if (n < 1 || n > NEAR_STEPS) {
            return NONE;
        }
        for (int news = 0; news <= MOST_NEWS; news++) {
            goOnWith(news, n);
            if (trial.sitting.together() >= report) {
                return news;
            }
        }
        return NONE;
    }

    public int best(int n) {
        if (!isWithin(n, NEAR_STEPS)) {
            return NONE;
        }
        int bestNews = NONE;
        int bestOff = 0;
        for (int news = 0; news <= MOST_NEWS; news++) {
            goOnWith(news, n);
            int off = plan.offOfAll(trial.sitting);
            if (bestNews == NONE || off < bestOff) {
                bestNews = news;
                bestOff = off;
            }
        }
        return bestNews;
    }

    /** In the trial the NEWS are let in now, and n STEPS are done. */
    private void goOnWith(int news, int n) {
        trial.begin(plan, now);
        trial.sitting.news = news;
        for (int i = 0; i < n; i++) {
            trial.pass();
        }
    }

    // ---- ODDS

    public int odds(int n, int part) {
        if (!isWithin(n, MOST_ODDS) || n * plan.members > MOST_ODDS || !isPart(part)) {
            return NONE;
        }
        int spared = PERCENT - plan.tooth;
        int common = commonDivisor(spared, PERCENT);
        // A fraction in lowest terms stays so when it is raised to a power.
        return power((part == 0 ? spared : PERCENT) / Math.max(common, 1), n * plan.members);
    }

    private static int commonDivisor(int a, int b) {
        for (int i = 0; i < PERCENT && a != 0; i++) {
            int rest = b % a;
            b = a;
            a = rest;
        }
        return b;
    }

    private static int power(int base, int times) {
        int product = 1;
        for (int i = 0; i < times && i < MOST_ODDS; i++) {
            product *= base;
        }
        return product;
    }

    // ---- what lies there

    public int lies(int i) {
        return i >= 0 && i < lyingCount && i < lying.length ? lying[i] : NONE;
    }

    // ---- LOOKS

    public int looks(int steps, int member, int face, boolean is) {
        if (!isWithin(steps, MOST_LOOK_STEPS) || !isMember(member) || !isWithin(face, MOST_FACE)) {
            return NONE;
        }
        return told.tell(steps, member, face, is, time);
    }

    public boolean untell(int look) {
        return told.takeBack(look, time);
    }

    public int later(int by) {
        if (!isWithin(by, MOST_LATER) || time + by > MOST_TIME) {
            return NONE;
        }
        time += by;
        return time;
    }

    public int fits(int k) {
        return fittingNews(k);
    }

    private int fittingNews(int k) {
        int deepest = told.deepest(k);
        int bits = 0;
        for (int news = 0; news <= MOST_NEWS; news++) {
            bits |= allAreSo(news, k, deepest) ? 1 << news : 0;
        }
        return bits;
    }

    private boolean allAreSo(int news, int k, int deepest) {
        trial.begin(plan, now);
        trial.sitting.news = news;
        for (int steps = 0; steps <= deepest && steps <= MOST_LOOK_STEPS; steps++) {
            if (steps > 0) {
                trial.pass();
            }
            if (!told.areSo(steps, k, trial.sitting)) {
                return false;
            }
        }
        return true;
    }

    public int ask(int steps, int what, int k) {
        if (!isWithin(steps, MOST_LOOK_STEPS) || !isPart(what)) {
            return NONE;
        }
        int fitting = fittingNews(k);
        if (fitting == 0 || plan.members == 0) {
            return NONE;
        }
        facesThen(fitting, steps);
        int best = NONE;
        int fewest = 0;
        for (int m = 0; m < plan.members; m++) {
            int left = mostLeft(m, fitting);
            if (best == NONE || left < fewest) {
                best = m;
                fewest = left;
            }
        }
        return what == 0 ? best : fewest;
    }

    /** Into asked come, for each NEWS that FITS, the FACES behind so many STEPS. */
    private void facesThen(int fitting, int steps) {
        for (int news = 0; news <= MOST_NEWS; news++) {
            if ((fitting >> news & 1) == 1) {
                goOnWith(news, steps);
                System.arraycopy(trial.sitting.faces, 0, asked, news * MOST_MEMBERS, MOST_MEMBERS);
            }
        }
    }

    private int mostLeft(int member, int fitting) {
        Arrays.fill(tally, 0);
        int most = 0;
        for (int news = 0; news <= MOST_NEWS; news++) {
            int face = asked[news * MOST_MEMBERS + member];
            if ((fitting >> news & 1) == 1 && isWithin(face, MOST_FACE)) {
                tally[face]++;
                most = Math.max(most, tally[face]);
            }
        }
        return most;
    }

    // ---- images

    public int image(int box) {
        if (box < 0 || box >= MOST_BOXES) {
            return NONE;
        }
        boxes.put(box, now);
        return now.step;
    }

    public int back(int box) {
        if (!boxes.give(box, now)) {
            return NONE;
        }
        acts.clear();
        return now.step;
    }

    public int about(int what) {
        switch (what) {
            case 0:
                return plan.members;
            case 1:
                return plan.districts;
            case 2:
                return plan.columns;
            case 3:
                return plan.rows;
            case 4:
                return now.news;
            case 5:
                return now.step;
            case 6:
                return now.seed;
            case 7:
                return acts.done;
            case 8:
                return acts.undone;
            case 9:
                return told.count;
            case 10:
                return time;
            case 11:
                return reader.tape.length;
            case 12:
                return plan.look.units + plan.light.units;
            case 13:
                return lyingCount;
            default:
                return NONE;
        }
    }

    // ---- what can be

    private boolean isMember(int member) {
        return member >= 0 && member < plan.members && member < MOST_MEMBERS;
    }

    private boolean isSeated(int member) {
        return isMember(member) && now.seats[member] != NONE;
    }

    private boolean isSeat(int seat) {
        return seat >= 0 && seat < plan.seatCount();
    }

    private boolean canChange(int member, int other) {
        return isMember(member) && isMember(other) && member != other && (isSeated(member) || isSeated(other));
    }

    private static boolean isPart(int what) {
        return what == 0 || what == 1;
    }

    private static boolean isWithin(int number, int most) {
        return number >= 0 && number <= most;
    }

    private static int within(int worth, int most) {
        return Math.max(0, Math.min(worth, most));
    }

    /** The TAPE, and its TOKENS one after the other. */
    private static final class Tape {
        private final byte[] bytes = new byte[TAPE_BYTES];
        private final long[] words = new long[WORD_COUNT];
        private int after = 0;
        int length = 0;
        int kind = END;
        int start = 0;
        int number = 0;
        long name = 0;

        Tape() {
            int word = 0;
            long code = 0;
            for (int i = 0; i < WORDS.length(); i++) {
                char c = WORDS.charAt(i);
                if (c != ' ') {
                    code = codeWith(code, c);
                } else if (word < words.length) {
                    words[word] = code;
                    word++;
                    code = 0;
                }
            }
        }

        void add(int number) {
            for (int shift = 24; shift >= 0 && length < bytes.length; shift -= 8) {
                bytes[length] = (byte) (number >> shift);
                length++;
            }
        }

        void toFirst() {
            after = 0;
            toNext();
        }

        void toNext() {
            start = after;
            for (int i = start; i < TAPE_BYTES && isAt(i) && (bytes[i] == 32 || bytes[i] == 10); i++) {
                start = i + 1;
            }
            int c = isAt(start) ? bytes[start] & 255 : NONE;
            if (c == NONE) {
                kind = END;
            } else if (isLetter(c)) {
                readWord();
            } else if (isDigit(c)) {
                readNumber();
            } else {
                kind = SIGNS.indexOf((char) c) >= 0 ? c : NO_TOKEN;
                after = start + 1;
            }
        }

        private void readWord() {
            name = 0;
            for (int i = start; i < TAPE_BYTES && isAt(i) && isLetter(bytes[i]); i++) {
                name = codeWith(name, bytes[i]);
                after = i + 1;
            }
            kind = after - start > MOST_LETTERS ? NO_TOKEN : NAME;
            for (int i = 0; i < words.length && kind == NAME; i++) {
                kind = words[i] == name ? FIRST_WORD + i : NAME;
            }
        }

        private void readNumber() {
            number = 0;
            for (int i = start; i < TAPE_BYTES && isAt(i) && isDigit(bytes[i]); i++) {
                number = number * 10 + bytes[i] - '0';
                after = i + 1;
            }
            boolean joined = isAt(after) && isLetter(bytes[after]);
            kind = joined || after - start > MOST_DIGITS ? NO_TOKEN : NUMBER;
        }

        private boolean isAt(int i) {
            return i >= 0 && i < length && i < bytes.length;
        }

        private static boolean isLetter(int c) {
            return c >= 'a' && c <= 'z';
        }

        private static boolean isDigit(int c) {
            return c >= '0' && c <= '9';
        }

        /** Words of up to eight letters have codes of their own. */
        private static long codeWith(long code, int letter) {
            return code * 27 + letter - 'a' + 1;
        }
    }

    /** Reads the text of a SENATE into a plan, up to the first FAULT. Each part answers whether it is sound. */
    private static final class Reader {
        final Tape tape = new Tape();
        Plan plan = new Plan();
        int fault = 0;
        int faultPlace = NONE;

        void read() {
            plan.clear();
            fault = 0;
            faultPlace = NONE;
            tape.toFirst();
            boolean sound = true;
            for (int lines = 0; lines < TAPE_BYTES && sound && tape.kind != END; lines++) {
                sound = line(lines == 0);
            }
        }

        private boolean line(boolean first) {
            switch (tape.kind) {
                case HALL:
                    return first ? hallLine() : refuse();
                case DISTRICT:
                    return districtLine();
                case MEMBER:
                    return memberLine();
                case LOOK:
                    return isUntold(plan.look) && level(plan.look, LEVEL_OR, 0) && skip(';');
                case LIGHT:
                    return isUntold(plan.light) && level(plan.light, LEVEL_OR, 0) && skip(';');
                case TOOTH:
                    return toothLine();
                case DRAW:
                    return drawLine();
                default:
                    return refuse();
            }
        }

        private boolean hallLine() {
            tape.toNext();
            if (!isNumber(1, MOST_SIDE)) {
                return false;
            }
            plan.columns = tape.number;
            tape.toNext();
            if (!skip(BY) || !isNumber(1, MOST_SIDE)) {
                return false;
            }
            plan.rows = tape.number;
            tape.toNext();
            return skip(';');
        }

        private boolean districtLine() {
            int d = plan.districts;
            if (d >= MOST_DISTRICTS) {
                return refuse();
            }
            tape.toNext();
            if (!isNewName(plan.districtNames, d)) {
                return false;
            }
            plan.districtNames[d] = tape.name;
            tape.toNext();
            if (!skip(MOOD) || !isNumber(0, MOST_FACE)) {
                return false;
            }
            plan.moods[d] = tape.number;
            tape.toNext();
            plan.districts++;
            return skip(';');
        }

        private boolean memberLine() {
            int m = plan.members;
            if (m >= MOST_MEMBERS) {
                return refuse();
            }
            tape.toNext();
            if (!isNewName(plan.memberNames, m)) {
                return false;
            }
            plan.memberNames[m] = tape.name;
            tape.toNext();
            if (!skip(FOR) || !homeOf(m) || !skip(FACE_WORD) || !isNumber(0, MOST_FACE)) {
                return false;
            }
            plan.faces[m] = tape.number;
            tape.toNext();
            if (!stoicOf(m) || !seatOf(m)) {
                return false;
            }
            plan.members++;
            return skip(';');
        }

        private boolean homeOf(int m) {
            if (tape.kind != NAME) {
                return refuse();
            }
            int home = placeOfName(plan.districtNames, plan.districts);
            if (home == NONE) {
                return refuseBy(FAULT_NO_DISTRICT);
            }
            plan.homes[m] = home;
            tape.toNext();
            return true;
        }

        private boolean stoicOf(int m) {
            if (tape.kind != STOIC_WORD) {
                return true;
            }
            tape.toNext();
            if (!isNumber(0, MOST_FACE)) {
                return false;
            }
            plan.stoics[m] = tape.number;
            tape.toNext();
            return true;
        }

        private boolean seatOf(int m) {
            if (tape.kind != AT) {
                return true;
            }
            tape.toNext();
            if (!isNumber(0, plan.columns - 1)) {
                return false;
            }
            int column = tape.number;
            tape.toNext();
            if (!isNumber(0, plan.rows - 1)) {
                return false;
            }
            int seat = tape.number * plan.columns + column;
            for (int other = 0; other < m && other < MOST_MEMBERS; other++) {
                if (plan.seats[other] == seat) {
                    return refuseBy(FAULT_TOLD_ALREADY);
                }
            }
            plan.seats[m] = seat;
            tape.toNext();
            return true;
        }

        private boolean toothLine() {
            if (plan.toothTold) {
                return refuse();
            }
            plan.toothTold = true;
            tape.toNext();
            if (!isNumber(0, PERCENT)) {
                return false;
            }
            plan.tooth = tape.number;
            tape.toNext();
            if (!skip(OF) || !isNumber(1, MOST_FACE)) {
                return false;
            }
            plan.ache = tape.number;
            tape.toNext();
            return skip(';');
        }

        private boolean drawLine() {
            if (plan.drawTold) {
                return refuse();
            }
            plan.drawTold = true;
            tape.toNext();
            if (!isNumber(0, SEEDS - 1)) {
                return false;
            }
            plan.draw = tape.number;
            tape.toNext();
            return skip(';');
        }

        /** Makes ready for a formula that was not told yet; one that was told has a unit at least. */
        private boolean isUntold(Formula formula) {
            if (formula.units > 0) {
                return refuse();
            }
            formula.clear();
            tape.toNext();
            return true;
        }

        /** Reads what is of this level, within so many units ( e ) and ones behind not. */
        private boolean level(Formula formula, int level, int depth) {
            if (level >= LEVEL_UNIT) {
                return unit(formula, depth);
            }
            if (level == LEVEL_ONE && tape.kind == NOT_WORD) {
                return negation(formula, depth);
            }
            if (!level(formula, level + 1, depth)) {
                return false;
            }
            int most = level == LEVEL_ONE ? 1 : MOST_UNITS + 1;
            for (int i = 0; i < most; i++) {
                int operator = operatorOf(level, tape.kind);
                if (operator == NONE) {
                    return true;
                }
                tape.toNext();
                if (!level(formula, level + 1, depth)) {
                    return false;
                }
                formula.add(operator);
            }
            return true;
        }

        private boolean negation(Formula formula, int depth) {
            if (depth >= MOST_NESTED) {
                return refuse();
            }
            tape.toNext();
            if (!level(formula, LEVEL_ONE, depth + 1)) {
                return false;
            }
            formula.add(NOT);
            return true;
        }

        private boolean unit(Formula formula, int depth) {
            if (formula.units >= MOST_UNITS) {
                return refuse();
            }
            formula.units++;
            int kind = tape.kind;
            if (kind == '(') {
                if (depth >= MOST_NESTED) {
                    return refuse();
                }
                tape.toNext();
                return level(formula, LEVEL_OR, depth + 1) && skip(')');
            }
            if (kind == NUMBER) {
                formula.add(CONSTANTS + tape.number);
            } else if (kind >= FIRST_SEEN && kind < FIRST_SEEN + SEEN_COUNT) {
                formula.add(kind - FIRST_SEEN);
            } else {
                return refuse();
            }
            tape.toNext();
            return true;
        }

        private static int operatorOf(int level, int kind) {
            switch (level) {
                case LEVEL_OR:
                    return kind == OR_WORD ? OR : NONE;
                case LEVEL_AND:
                    return kind == AND_WORD ? AND : NONE;
                case LEVEL_ONE:
                    return kind == '<' ? LESS : kind == '>' ? MORE : kind == '=' ? SAME : NONE;
                case LEVEL_SUM:
                    return kind == '+' ? PLUS : kind == '-' ? MINUS : NONE;
                case LEVEL_TERM:
                    return kind == '*' ? TIMES : kind == '/' ? OVER : kind == '%' ? REST : NONE;
                default:
                    return NONE;
            }
        }

        /** Whether the TOKEN is a NAME that none of these has. */
        private boolean isNewName(long[] names, int count) {
            if (tape.kind != NAME) {
                return refuse();
            }
            return placeOfName(names, count) == NONE || refuseBy(FAULT_TOLD_ALREADY);
        }

        private int placeOfName(long[] names, int count) {
            for (int i = 0; i < count && i < names.length; i++) {
                if (names[i] == tape.name) {
                    return i;
                }
            }
            return NONE;
        }

        /** Whether the TOKEN is a number from .. to. */
        private boolean isNumber(int from, int to) {
            if (tape.kind != NUMBER) {
                return refuse();
            }
            return tape.number >= from && tape.number <= to || refuseBy(FAULT_NUMBER);
        }

        private boolean skip(int kind) {
            if (tape.kind != kind) {
                return refuse();
            }
            tape.toNext();
            return true;
        }

        private boolean refuse() {
            return refuseBy(tape.kind == NO_TOKEN ? FAULT_NO_TOKEN : FAULT_MISPLACED);
        }

        private boolean refuseBy(int number) {
            fault = number;
            faultPlace = tape.start;
            return false;
        }
    }

    /** A formula, operands ahead of their operators. */
    private static final class Formula {
        private final int[] codes = new int[MOST_CODES];
        private final int[] stack = new int[MOST_STACK];
        private int length = 0;
        int units = 0;

        void clear() {
            length = 0;
            units = 0;
        }

        void add(int code) {
            if (length < codes.length) {
                codes[length] = code;
                length++;
            }
        }

        int worth(int[] seen) {
            int top = 0;
            for (int i = 0; i < length && i < codes.length; i++) {
                int code = codes[i];
                if (code >= CONSTANTS || code < SEEN_COUNT) {
                    if (top < stack.length) {
                        stack[top] = operand(code, seen);
                        top++;
                    }
                } else if (code == NOT) {
                    if (top > 0) {
                        stack[top - 1] = stack[top - 1] == 0 ? 1 : 0;
                    }
                } else if (top > 1) {
                    top--;
                    stack[top - 1] = joined(code, stack[top - 1], stack[top]);
                }
            }
            return top > 0 ? stack[0] : 0;
        }

        private static int operand(int code, int[] seen) {
            if (code >= CONSTANTS) {
                return code - CONSTANTS;
            }
            return code >= 0 && code < seen.length ? seen[code] : 0;
        }

        private static int joined(int operator, int a, int b) {
            switch (operator) {
                case OR:
                    return a != 0 || b != 0 ? 1 : 0;
                case AND:
                    return a != 0 && b != 0 ? 1 : 0;
                case LESS:
                    return a < b ? 1 : 0;
                case MORE:
                    return a > b ? 1 : 0;
                case SAME:
                    return a == b ? 1 : 0;
                case PLUS:
                    return a + b;
                case MINUS:
                    return a - b;
                case TIMES:
                    return a * b;
                case OVER:
                    return b == 0 ? 0 : a / b;
                case REST:
                    return b == 0 ? 0 : a % b;
                default:
                    return 0;
            }
        }
    }

    /** What the text of a SENATE tells. */
    private static final class Plan {
        final long[] districtNames = new long[MOST_DISTRICTS];
        final int[] moods = new int[MOST_DISTRICTS];
        final long[] memberNames = new long[MOST_MEMBERS];
        final int[] homes = new int[MOST_MEMBERS];
        final int[] faces = new int[MOST_MEMBERS];
        final int[] stoics = new int[MOST_MEMBERS];
        final int[] seats = new int[MOST_MEMBERS];
        final Formula look = new Formula();
        final Formula light = new Formula();
        int columns = MOST_SIDE;
        int rows = MOST_SIDE;
        int districts = 0;
        int members = 0;
        int tooth = 0;
        int ache = 1;
        int draw = 0;
        boolean toothTold = false;
        boolean drawTold = false;

        Plan() {
            clear();
        }

        void clear() {
            Arrays.fill(homes, 0);
            Arrays.fill(faces, 0);
            Arrays.fill(stoics, 0);
            Arrays.fill(seats, NONE);
            look.clear();
            look.add(FACE);
            light.clear();
            light.add(CONSTANTS + 5);
            columns = MOST_SIDE;
            rows = MOST_SIDE;
            districts = 0;
            members = 0;
            tooth = 0;
            ache = 1;
            draw = 0;
            toothTold = false;
            drawTold = false;
        }

        int seatCount() {
            return Math.min(columns * rows, MOST_SEATS);
        }

        int membersOf(int district) {
            int bits = 0;
            for (int m = 0; m < members && m < MOST_MEMBERS; m++) {
                bits |= homes[m] == district ? 1 << m : 0;
            }
            return bits;
        }

        int offOf(int district, Sitting sitting) {
            if (district < 0 || district >= districts) {
                return 0;
            }
            int bits = membersOf(district);
            return Math.abs(sitting.facesOf(bits) - moods[district] * Integer.bitCount(bits));
        }

        int offOfAll(Sitting sitting) {
            int sum = 0;
            for (int d = 0; d < districts; d++) {
                sum += offOf(d, sitting);
            }
            return sum;
        }
    }

    /** FACES, SEATS, NEWS, the step and the SEED as they are at one time. */
    private static final class Sitting {
        final int[] faces = new int[MOST_MEMBERS];
        final int[] seats = new int[MOST_MEMBERS];
        int news = 0;
        int step = 0;
        int seed = 0;

        void begin(Plan plan) {
            System.arraycopy(plan.faces, 0, faces, 0, MOST_MEMBERS);
            System.arraycopy(plan.seats, 0, seats, 0, MOST_MEMBERS);
            news = 0;
            step = 0;
            seed = plan.draw;
        }

        void take(Sitting other) {
            System.arraycopy(other.faces, 0, faces, 0, MOST_MEMBERS);
            System.arraycopy(other.seats, 0, seats, 0, MOST_MEMBERS);
            news = other.news;
            step = other.step;
            seed = other.seed;
        }

        int together() {
            return facesOf((1 << MOST_MEMBERS) - 1);
        }

        int facesOf(int bits) {
            int sum = 0;
            for (int m = 0; m < MOST_MEMBERS; m++) {
                sum += (bits >> m & 1) == 1 ? faces[m] : 0;
            }
            return sum;
        }

        int sitterOn(int seat) {
            for (int m = 0; m < MOST_MEMBERS; m++) {
                if (seats[m] == seat) {
                    return m;
                }
            }
            return NONE;
        }

        int seated() {
            int bits = 0;
            for (int m = 0; m < MOST_MEMBERS; m++) {
                bits |= seats[m] == NONE ? 0 : 1 << m;
            }
            return bits;
        }

        void swap(int one, int other) {
            int seat = seats[one];
            seats[one] = seats[other];
            seats[other] = seat;
        }
    }

    /** Rows in which sittings are kept. */
    private static final class Shelf {
        private static final int ROW_CELLS = 17;
        private static final int NEWS_CELL = 14;
        private static final int STEP_CELL = 15;
        private static final int SEED_CELL = 16;
        private final int size;
        private final int[] cells;
        private final boolean[] full;

        Shelf(int rows) {
            size = Math.max(rows, 0);
            cells = new int[size * ROW_CELLS];
            full = new boolean[size];
        }

        void clear() {
            for (int i = 0; i < full.length; i++) {
                full[i] = false;
            }
        }

        void put(int row, Sitting sitting) {
            if (row < 0 || row >= size) {
                return;
            }
            int at = row * ROW_CELLS;
            System.arraycopy(sitting.faces, 0, cells, at, MOST_MEMBERS);
            System.arraycopy(sitting.seats, 0, cells, at + MOST_MEMBERS, MOST_MEMBERS);
            cells[at + NEWS_CELL] = sitting.news;
            cells[at + STEP_CELL] = sitting.step;
            cells[at + SEED_CELL] = sitting.seed;
            full[row] = true;
        }

        boolean give(int row, Sitting sitting) {
            if (row < 0 || row >= size || !full[row]) {
                return false;
            }
            int at = row * ROW_CELLS;
            System.arraycopy(cells, at, sitting.faces, 0, MOST_MEMBERS);
            System.arraycopy(cells, at + MOST_MEMBERS, sitting.seats, 0, MOST_MEMBERS);
            sitting.news = cells[at + NEWS_CELL];
            sitting.step = cells[at + STEP_CELL];
            sitting.seed = cells[at + SEED_CELL];
            return true;
        }

        /** The first row goes, the others come one nearer. */
        void dropFirst() {
            if (size > 0) {
                System.arraycopy(cells, ROW_CELLS, cells, 0, cells.length - ROW_CELLS);
            }
        }
    }

    /** The ACTS that are kept: row i is how it was ahead of the i-th, the row behind the last how it became. */
    private static final class Acts {
        private final Shelf shelf = new Shelf(MOST_ACTS + 1);
        int done = 0;
        int undone = 0;

        void clear() {
            done = 0;
            undone = 0;
        }

        /** Called ahead of each ACT. */
        void keep(Sitting sitting) {
            if (done >= MOST_ACTS) {
                shelf.dropFirst();
                done = MOST_ACTS - 1;
            }
            shelf.put(done, sitting);
            done++;
            undone = 0;
        }

        boolean takeBack(Sitting sitting) {
            if (done == 0) {
                return false;
            }
            shelf.put(done, sitting);
            done--;
            undone++;
            return shelf.give(done, sitting);
        }

        boolean doAgain(Sitting sitting) {
            if (undone == 0) {
                return false;
            }
            done++;
            undone--;
            return shelf.give(done, sitting);
        }
    }

    /** A sitting that goes on as told, while what is so now stays. */
    private static final class Trial {
        private static final int LIT_STEPS = 64;
        final Sitting sitting = new Sitting();
        final int[] beside = new int[MOST_MEMBERS];
        private final int[] rows = new int[MOST_MEMBERS];
        private final int[] columns = new int[MOST_MEMBERS];
        private final int[] next = new int[MOST_MEMBERS];
        private final int[] kept = new int[MOST_TURNS * MOST_MEMBERS];
        private final int[] seen = new int[SEEN_COUNT];
        private final int[] lit = new int[SEEN_COUNT];
        private final int[] litSteps = new int[LIT_STEPS * MOST_SEATS];
        private final int[] litWorths = new int[LIT_STEPS * MOST_SEATS];
        private Plan plan = null;

        void begin(Plan plan, Sitting from) {
            this.plan = plan;
            sitting.take(from);
            arrange();
        }

        /** To be called when a SEAT in the sitting has changed. */
        void arrange() {
            int width = plan == null ? 1 : Math.max(plan.columns, 1);
            for (int m = 0; m < MOST_MEMBERS; m++) {
                int seat = Math.max(sitting.seats[m], 0);
                rows[m] = seat / width;
                columns[m] = seat % width;
            }
            for (int m = 0; m < MOST_MEMBERS; m++) {
                int bits = 0;
                for (int other = 0; other < MOST_MEMBERS; other++) {
                    bits |= areBeside(m, other) ? 1 << other : 0;
                }
                beside[m] = bits;
            }
        }

        private boolean areBeside(int m, int other) {
            return sitting.seats[m] != NONE && sitting.seats[other] != NONE
                    && Math.abs(rows[m] - rows[other]) + Math.abs(columns[m] - columns[other]) == 1;
        }

        int besideOf(int member) {
            return member >= 0 && member < MOST_MEMBERS ? beside[member] : 0;
        }

        int besideAny(int members) {
            int bits = 0;
            for (int m = 0; m < MOST_MEMBERS; m++) {
                bits |= (members >> m & 1) == 1 ? beside[m] : 0;
            }
            return bits;
        }

        void passAll(int n) {
            for (int i = 0; i < n && i < FAR_STEPS; i++) {
                pass();
            }
        }

        /** A STEP without toothaches: whose FACE changes, as bits. */
        int pass() {
            if (plan == null) {
                return 0;
            }
            int changed = 0;
            for (int m = 0; m < plan.members && m < MOST_MEMBERS; m++) {
                next[m] = nextFace(plan, m);
                changed |= next[m] == sitting.faces[m] ? 0 : 1 << m;
            }
            System.arraycopy(next, 0, sitting.faces, 0, Math.min(plan.members, MOST_MEMBERS));
            sitting.step++;
            return changed;
        }

        private int nextFace(Plan plan, int m) {
            seen[FACE] = sitting.faces[m];
            seen[NEAR] = sitting.facesOf(beside[m]);
            seen[BESIDE] = Integer.bitCount(beside[m]);
            seen[BRIGHT] = brightAt(sitting.seats[m], sitting.step);
            seen[STOIC] = plan.stoics[m];
            seen[NEWS] = sitting.news;
            seen[STEP] = sitting.step;
            seen[ROW] = rows[m];
            seen[COLUMN] = columns[m];
            return within(plan.look.worth(seen), MOST_FACE);
        }

        /** The toothaches behind a STEP: who WINCE, as bits. */
        int wince() {
            if (plan == null) {
                return 0;
            }
            int winced = 0;
            for (int m = 0; m < plan.members && m < MOST_MEMBERS; m++) {
                sitting.seed = (sitting.seed * 137 + 71) % SEEDS;
                if (sitting.seed % PERCENT < plan.tooth) {
                    sitting.faces[m] = Math.max(0, sitting.faces[m] - plan.ache);
                    winced |= 1 << m;
                }
            }
            return winced;
        }

        /** How BRIGHT a SEAT is. Many trials go over the same STEPS, so what was found is kept. */
        int brightAt(int seat, int step) {
            if (plan == null || seat < 0 || seat >= MOST_SEATS || step < 0) {
                return 0;
            }
            int slot = step % LIT_STEPS * MOST_SEATS + seat;
            if (litSteps[slot] != step + 1) {
                int width = Math.max(plan.columns, 1);
                lit[STEP] = step;
                lit[ROW] = seat / width;
                lit[COLUMN] = seat % width;
                litWorths[slot] = within(plan.light.worth(lit), MOST_FACE);
                litSteps[slot] = step + 1;
            }
            return litWorths[slot];
        }

        /** To be called when another plan comes. */
        void forgetLight() {
            Arrays.fill(litSteps, 0);
        }

        boolean allAlike() {
            for (int m = 1; plan != null && m < plan.members && m < MOST_MEMBERS; m++) {
                if (sitting.faces[m] != sitting.faces[0]) {
                    return false;
                }
            }
            return true;
        }

        void keepFaces(int row) {
            if (row >= 0 && row < MOST_TURNS) {
                System.arraycopy(sitting.faces, 0, kept, row * MOST_MEMBERS, MOST_MEMBERS);
            }
        }

        void takeKept(int row) {
            if (row >= 0 && row < MOST_TURNS) {
                System.arraycopy(kept, row * MOST_MEMBERS, sitting.faces, 0, MOST_MEMBERS);
            }
        }

        /** MEMBERS whose FACE is another one than in the kept row, as bits. */
        int unlikeKept(int row) {
            int bits = 0;
            for (int m = 0; m < MOST_MEMBERS && row >= 0 && row < MOST_TURNS; m++) {
                bits |= kept[row * MOST_MEMBERS + m] == sitting.faces[m] ? 0 : 1 << m;
            }
            return bits;
        }
    }

    /** The LOOKS, by their numbers. */
    private static final class Looks {
        private final int[] steps = new int[MOST_LOOKS];
        private final int[] members = new int[MOST_LOOKS];
        private final int[] faces = new int[MOST_LOOKS];
        private final boolean[] wants = new boolean[MOST_LOOKS];
        private final int[] toldAt = new int[MOST_LOOKS];
        private final int[] untoldAt = new int[MOST_LOOKS];
        int count = 0;

        void clear() {
            count = 0;
        }

        int tell(int step, int member, int face, boolean is, int time) {
            if (count >= MOST_LOOKS) {
                return NONE;
            }
            steps[count] = step;
            members[count] = member;
            faces[count] = face;
            wants[count] = is;
            toldAt[count] = time;
            untoldAt[count] = NONE;
            count++;
            return count - 1;
        }

        boolean takeBack(int look, int time) {
            if (look < 0 || look >= count || untoldAt[look] != NONE) {
                return false;
            }
            untoldAt[look] = time;
            return true;
        }

        private boolean counts(int look, int k) {
            return toldAt[look] <= k && (untoldAt[look] == NONE || untoldAt[look] > k);
        }

        /** The most STEPS of those that count, NONE if none does. */
        int deepest(int k) {
            int most = NONE;
            for (int i = 0; i < count; i++) {
                most = counts(i, k) ? Math.max(most, steps[i]) : most;
            }
            return most;
        }

        /** Whether those that count and speak of so many STEPS are so in the sitting then. */
        boolean areSo(int step, int k, Sitting then) {
            for (int i = 0; i < count; i++) {
                if (steps[i] == step && counts(i, k) && (then.faces[members[i]] >= faces[i]) != wants[i]) {
                    return false;
                }
            }
            return true;
        }
    }
}
