/**
 * A border that is a skipping rope: its places and their wear, the rhyme that says when it is down,
 * those who turn it and those who cross it. ../shared/DOC.md numbers what it promises; the words in
 * capitals there are the names here.
 */
public final class RopeBorder {
    private static final int LOW = -1000000000;
    private static final int BEYOND = 1;
    private static final int NONE = 2;
    private static final int STATE = 3;
    private static final int FULL = 4;
    private static final int KIND = 5;

    private static final int MOST_PLACES = 8;
    private static final int MOST_WEAR = 999;
    private static final int MOST_RHYME = 16;
    private static final int MOST_BEAT = 99999;
    private static final int MOST_TURNERS = 4;
    private static final int MOST_TIRED = 99;
    private static final int MOST_CROSSERS = 8;
    private static final int MOST_LOAD = 99;
    private static final int MOST_TAPE = 50;
    private static final int MOST_WAITING = 20;
    private static final int MOST_THOUGHT = 200;
    private static final int MOST_SOUGHT = 60;
    private static final int MOST_LOOSE = 40;
    private static final int MOST_TRIED_RHYME = 8;
    private static final int SHEETS = 4;
    private static final int MOST_NUMBERS = 40;

    private static final int SOUTH = 0;
    private static final int IN = 1;
    private static final int NORTH = 2;
    private static final int HELD = 3;

    private static final int CROSSER = 0;
    private static final int SMUGGLER = 1;
    private static final int CARTER = 2;
    private static final int CHILD = 3;
    private static final int ARMY = 4;
    private static final int TOURIST = 5;
    private static final int LOVER = 6;
    private static final int NO_KIND = -1;
    private static final int[] KIND_ABOVE = {
        NO_KIND, CROSSER, CROSSER, CROSSER, SMUGGLER, CARTER, CHILD
    };

    private static final int JUMPS_USE = 0;
    private static final int JUMPED_USE = 1;

    private final Kept now = new Kept();
    private final Kept imaged = new Kept();
    private final Border thought = new Border(now.jumpsLaw, now.jumpedLaw);
    private final Reader reader = new Reader(now.tape);
    private final Voices voices = new Voices();
    private final Sheet[] sheets = new Sheet[SHEETS];
    private final int[] errors = new int[KIND + 1];
    private int images;

    public RopeBorder() {
        for (int i = 0; i < SHEETS; i++) {
            sheets[i] = new Sheet();
        }
    }

    // ---- the rope, turners, crossers

    public int rope(int n) {
        if (!isWithin(n, 2, MOST_PLACES)) {
            return refuse(BEYOND);
        }
        if (now.border.crosserCount > 0) {
            return refuse(STATE);
        }
        int before = now.border.places;
        now.border.layRope(n);
        return before;
    }

    public int rhyme(int p, int down) {
        if (!isWithin(p, 1, MOST_RHYME) || !isSetOf(down, p)) {
            return refuse(BEYOND);
        }
        int before = now.border.rhymeLength;
        now.border.rhymeLength = p;
        now.border.downSet = down;
        return before;
    }

    public int turner(int strength) {
        if (!isWithin(strength, 1, MOST_TIRED)) {
            return refuse(BEYOND);
        }
        if (now.border.turnerCount >= MOST_TURNERS) {
            return refuse(FULL);
        }
        return now.border.addTurner(strength);
    }

    public int ofTurner(int turner, int what) {
        if (!isTurner(turner) || !isWithin(what, 0, 2)) {
            return refuse(BEYOND);
        }
        Turner one = now.border.turners[turner];
        if (what == 0) {
            return one.strength;
        }
        return what == 1 ? one.tired : asNumber(now.border.turning == turner);
    }

    public int relieve(int turner) {
        if (!isTurner(turner)) {
            return refuse(BEYOND);
        }
        int before = now.border.turning;
        now.border.turning = turner;
        return before;
    }

    public int crosser(int km, int skill, int place) {
        if (!isKindAndNumber(km) || !isWithin(skill, 0, 9) || !isPlace(place)) {
            return refuse(BEYOND);
        }
        if (now.border.crosserCount >= MOST_CROSSERS) {
            return refuse(FULL);
        }
        return now.border.addCrosser(km, skill, place);
    }

    public int ofCrosser(int crosser, int what) {
        if (!isCrosser(crosser)) {
            return refuse(BEYOND);
        }
        Crosser one = now.border.crossers[crosser];
        switch (what) {
            case 0: return one.kind;
            case 1: return one.m;
            case 2: return one.skill;
            case 3: return one.load;
            case 4: return one.place;
            case 5: return one.state;
            case 6: return one.jumps;
            case 7: return now.border.needsOf(one);
            case 8: return one.wearsByJump();
            case 9: return asNumber(now.border.isGoing(crosser));
            default: return refuse(BEYOND);
        }
    }

    public int change(int crosser, int what, int v) {
        if (!isCrosser(crosser) || !canBecome(what, v)) {
            return refuse(BEYOND);
        }
        return now.border.crossers[crosser].exchange(what, v);
    }

    public int become(int crosser, int km) {
        if (!isCrosser(crosser) || !isKindAndNumber(km)) {
            return refuse(BEYOND);
        }
        Crosser one = now.border.crossers[crosser];
        int before = one.kind;
        one.takeKind(km);
        return before;
    }

    public int as(int crosser, int kind) {
        if (!isCrosser(crosser) || !isWithin(kind, CROSSER, LOVER)) {
            return refuse(BEYOND);
        }
        Crosser one = now.border.crossers[crosser];
        return one.isOfKind(kind) ? one.m : refuse(KIND);
    }

    public int go(int crossers) {
        if (!isSetOf(crossers, now.border.crosserCount)) {
            return refuse(BEYOND);
        }
        int before = now.border.goingSet;
        now.border.goingSet = crossers;
        return before;
    }

    public int splice(int place, int v) {
        if (!isPlace(place) || !isWithin(v, 0, MOST_WEAR)) {
            return refuse(BEYOND);
        }
        int before = now.border.wears[place];
        now.border.wears[place] = v;
        return before;
    }

    // ---- texts

    public int feed(long word, int n) {
        if (!isWithin(n, 1, 8)) {
            return refuse(BEYOND);
        }
        if (now.tapeSize + n > MOST_TAPE) {
            return refuse(FULL);
        }
        for (int i = 0; i < n; i++) {
            now.tape[now.tapeSize] = (int) (word >>> (8 * i)) & 255;
            now.tapeSize++;
        }
        return now.tapeSize;
    }

    public int text(int use) {
        if (!isUse(use)) {
            return refuse(BEYOND);
        }
        boolean isText = reader.reads(now.tapeSize, use);
        now.tapeSize = 0;
        if (!isText) {
            return -10 - reader.at;
        }
        now.lawOf(use).takeCode(reader.code, reader.size);
        return 1;
    }

    public int law(int use, int a, int b, int c) {
        return isUse(use) ? now.lawOf(use).gives(a, b, c) : refuse(BEYOND);
    }

    // ---- beats

    public int beats(int n) {
        if (!isWithin(n, 1, MOST_THOUGHT)) {
            return refuse(BEYOND);
        }
        if (now.border.beat + n > MOST_BEAT) {
            return refuse(STATE);
        }
        now.border.turnFor(n);
        return now.border.countOf(NORTH);
    }

    public int loose(int n) {
        if (!isWithin(n, 1, MOST_LOOSE)) {
            return refuse(BEYOND);
        }
        if (now.border.beat + n > MOST_BEAT) {
            return refuse(STATE);
        }
        for (int i = 0; i < n; i++) {
            drawWhoGoes();
            now.border.turnOnce();
        }
        return now.border.countOf(NORTH);
    }

    public int wear(int place) {
        return isPlace(place) ? now.border.wears[place] : refuse(BEYOND);
    }

    // ---- what would be

    public int then(int n, int crosser, int what) {
        if (!isWithin(n, 0, MOST_THOUGHT) || !isCrosser(crosser) || !isWithin(what, 0, 1)) {
            return refuse(BEYOND);
        }
        thinkOfNow();
        thought.settleFor(n);
        Crosser one = thought.crossers[crosser];
        return what == 0 ? one.state : one.jumps;
    }

    public int over(int crosser) {
        if (!isCrosser(crosser)) {
            return refuse(BEYOND);
        }
        thinkOfNow();
        Crosser one = thought.crossers[crosser];
        for (int n = 0; n <= MOST_THOUGHT; n++) {
            if (one.state == NORTH) {
                return n;
            }
            thought.turnOnce();
        }
        return refuse(NONE);
    }

    public int begin(int crosser) {
        if (!isCrosser(crosser)) {
            return refuse(BEYOND);
        }
        if (now.border.crossers[crosser].state != SOUTH) {
            return refuse(STATE);
        }
        for (int wait = 0; wait < now.border.rhymeLength; wait++) {
            if (isNorthIfHeWaits(crosser, wait)) {
                return wait;
            }
        }
        return refuse(NONE);
    }

    public int rhymes(int n, int all, int none, int what) {
        int crosserCount = now.border.crosserCount;
        if (!isWithin(n, 0, MOST_SOUGHT) || !isSetOf(all, crosserCount)
                || !isSetOf(none, crosserCount) || (all & none) != 0 || !isWithin(what, 0, 1)) {
            return refuse(BEYOND);
        }
        if (now.border.rhymeLength > MOST_TRIED_RHYME) {
            return refuse(STATE);
        }
        int found = 0;
        for (int down = 0; down < 1 << now.border.rhymeLength; down++) {
            if (isRhymeFor(down, n, all, none)) {
                if (what == 1) {
                    return down;
                }
                found++;
            }
        }
        return what == 0 ? found : refuse(NONE);
    }

    public int most(int n) {
        if (!isWithin(n, 0, MOST_SOUGHT)) {
            return refuse(BEYOND);
        }
        int south = now.border.setOf(SOUTH);
        int best = 0;
        for (int set = 1; set <= south; set++) {
            if ((set & ~south) == 0 && Integer.bitCount(set) > Integer.bitCount(best)
                    && areNorthIfJustTheyGo(set, n)) {
                best = set;
            }
        }
        return best;
    }

    public int relief() {
        if (now.border.turnerCount == 0) {
            return refuse(NONE);
        }
        int best = 0;
        for (int i = 1; i < now.border.turnerCount; i++) {
            if (now.border.turners[i].strengthLeft() > now.border.turners[best].strengthLeft()) {
                best = i;
            }
        }
        return best;
    }

    public int stands() {
        thinkOfNow();
        for (int n = 0; n <= MOST_THOUGHT; n++) {
            if (thought.isStanding()) {
                return n;
            }
            thought.turnOnce();
        }
        return refuse(NONE);
    }

    public int parts(int v) {
        if (!isWithin(v, 0, MOST_WEAR)) {
            return refuse(BEYOND);
        }
        thinkOfNow();
        for (int n = 0; n <= MOST_THOUGHT; n++) {
            if (thought.mostWear() >= v) {
                return n;
            }
            thought.turnOnce();
        }
        return refuse(NONE);
    }

    public int who(int sheet, int n) {
        if (!isSheet(sheet) || !isWithin(n, 0, MOST_THOUGHT)) {
            return refuse(BEYOND);
        }
        Sheet told = sheets[sheet];
        if (told.isMissing() || told.size != now.border.places) {
            return refuse(NONE);
        }
        int set = 0;
        for (int i = 0; i < now.border.crosserCount; i++) {
            if (now.border.crossers[i].state == SOUTH && wearsAsToldIfJustHeGoes(i, n, told)) {
                set |= 1 << i;
            }
        }
        return set;
    }

    public int odds(int crosser, int n, int part) {
        if (!isCrosser(crosser) || !isWithin(n, 0, MOST_THOUGHT) || !isWithin(part, 0, 1)) {
            return refuse(BEYOND);
        }
        if (now.border.crossers[crosser].state != SOUTH) {
            return refuse(STATE);
        }
        int below = now.border.rhymeLength;
        int above = 0;
        for (int place = 0; place < below; place++) {
            above += asNumber(isNorthFromPlace(crosser, n, place));
        }
        int shared = greatestShared(above, below);
        return part == 0 ? above / shared : below / shared;
    }

    // ---- draws, voices, sheets, images, what is told

    public int seed(int v) {
        int before = now.z;
        now.z = v;
        return before;
    }

    public int voice(int crosser, int act, int x) {
        if (!isCrosser(crosser) || !isWithin(act, 0, Voices.ACTS - 1)) {
            return refuse(BEYOND);
        }
        Crosser one = now.border.crossers[crosser];
        return voices.speak(one.kind, crosser, one.m, act, x);
    }

    public int trace(int i) {
        return isWithin(i, 0, voices.traced - 1) ? voices.bodies[i] : refuse(NONE);
    }

    public int sheet(int sheet, int bits, int n) {
        boolean isWidth = bits == 0 || bits == 8 || bits == 16 || bits == 32;
        if (!isSheet(sheet) || !isWidth) {
            return refuse(BEYOND);
        }
        if (bits != 0 && n < 0) {
            return refuse(STATE);
        }
        if (bits != 0 && n > MOST_NUMBERS) {
            return refuse(BEYOND);
        }
        sheets[sheet].clearTo(bits, bits == 0 ? 0 : n);
        return 1;
    }

    public int put(int sheet, int i, int v) {
        if (!isSheet(sheet)) {
            return refuse(BEYOND);
        }
        Sheet target = sheets[sheet];
        if (target.isMissing()) {
            return refuse(NONE);
        }
        if (!isWithin(i, 0, target.size - 1)) {
            return refuse(BEYOND);
        }
        target.write(i, v);
        return 1;
    }

    public int move(int sheet, int i, int other, int j, int n) {
        if (!isSheet(sheet) || !isSheet(other)) {
            return refuse(BEYOND);
        }
        Sheet from = sheets[sheet];
        Sheet to = sheets[other];
        if (from.isMissing() || to.isMissing()) {
            return refuse(NONE);
        }
        if (from.bits != to.bits) {
            return refuse(KIND);
        }
        if (!from.hasRun(i, n) || !to.hasRun(j, n)) {
            return refuse(BEYOND);
        }
        System.arraycopy(from.numbers, i, to.numbers, j, n);
        return n;
    }

    public int loads(int sheet) {
        if (!isSheet(sheet)) {
            return refuse(BEYOND);
        }
        Sheet source = sheets[sheet];
        if (source.isMissing()) {
            return refuse(NONE);
        }
        int most = Math.min(source.size, now.border.crosserCount);
        int done = 0;
        while (done < most && isWithin(source.numbers[done], 0, MOST_LOAD)) {
            now.border.crossers[done].load = source.numbers[done];
            done++;
        }
        return done;
    }

    public int judge(int sheet) {
        if (!isSheet(sheet)) {
            return refuse(BEYOND);
        }
        Sheet claim = sheets[sheet];
        if (claim.isMissing()) {
            return refuse(NONE);
        }
        int both = Math.min(claim.size, now.border.crosserCount);
        for (int i = 0; i < both; i++) {
            if (claim.numbers[i] != now.border.crossers[i].state) {
                return i;
            }
        }
        return claim.size == now.border.crosserCount ? -1 : both;
    }

    public int image() {
        imaged.copyFrom(now);
        images++;
        return images;
    }

    public int restore() {
        if (images == 0) {
            return refuse(NONE);
        }
        now.copyFrom(imaged);
        return now.border.beat;
    }

    public int tell(int v) {
        if (now.waitingSize >= MOST_WAITING) {
            return refuse(FULL);
        }
        now.waiting[now.waitingSize] = v;
        now.waitingSize++;
        return now.waitingSize;
    }

    public int check() {
        int size = now.waitingSize;
        now.waitingSize = 0;
        thinkOfNow();
        for (int i = 0; i < size; i++) {
            thought.turnOnce();
            if (thought.countOf(NORTH) != now.waiting[i]) {
                return 1 + i;
            }
        }
        return 0;
    }

    public int count(int what) {
        switch (what) {
            case 0: return now.border.places;
            case 1: return now.border.rhymeLength;
            case 2: return now.border.downSet;
            case 3: return now.border.beat;
            case 4: return now.border.turnerCount;
            case 5: return now.border.turning;
            case 6: return now.border.crosserCount;
            case 7: return now.border.goingSet;
            case 8: return now.border.setOf(NORTH);
            case 9: return now.border.setOf(HELD);
            case 10: return now.tapeSize;
            case 11: return now.waitingSize;
            case 12: return voices.traced;
            case 13: return now.z;
            default: return refuse(BEYOND);
        }
    }

    public int told(int k) {
        return isWithin(k, BEYOND, KIND) ? errors[k] : refuse(BEYOND);
    }

    // ---- what the acts ask first

    private int refuse(int error) {
        if (isWithin(error, BEYOND, KIND)) {
            errors[error]++;
        }
        return LOW - error;
    }

    private static boolean isWithin(int v, int least, int most) {
        return v >= least && v <= most;
    }

    private static boolean isSetOf(int set, int size) {
        return set >= 0 && set < 1 << size;
    }

    private static int asNumber(boolean is) {
        return is ? 1 : 0;
    }

    private static boolean isUse(int use) {
        return use == JUMPS_USE || use == JUMPED_USE;
    }

    private static boolean isSheet(int sheet) {
        return isWithin(sheet, 0, SHEETS - 1);
    }

    private static boolean isKindAndNumber(int km) {
        return isWithin(km, 0, 10 * LOVER + 9);
    }

    private boolean isPlace(int place) {
        return isWithin(place, 0, now.border.places - 1);
    }

    private boolean isTurner(int turner) {
        return isWithin(turner, 0, now.border.turnerCount - 1);
    }

    private boolean isCrosser(int crosser) {
        return isWithin(crosser, 0, now.border.crosserCount - 1);
    }

    private boolean canBecome(int what, int v) {
        switch (what) {
            case Crosser.WHAT_SKILL: return isWithin(v, 0, 9);
            case Crosser.WHAT_LOAD: return isWithin(v, 0, MOST_LOAD);
            case Crosser.WHAT_PLACE: return isPlace(v);
            case Crosser.WHAT_STATE: return v == SOUTH || v == NORTH || v == HELD;
            default: return false;
        }
    }

    // ---- what is only thought

    private void thinkOfNow() {
        thought.copyFrom(now.border);
    }

    private boolean isNorthIfHeWaits(int crosser, int wait) {
        int bit = 1 << crosser;
        thinkOfNow();
        thought.goingSet &= ~bit;
        thought.turnFor(wait);
        thought.goingSet |= bit;
        thought.settleFor(MOST_THOUGHT - wait);
        return thought.crossers[crosser].state == NORTH;
    }

    private boolean isRhymeFor(int down, int n, int all, int none) {
        thinkOfNow();
        thought.downSet = down;
        thought.goingSet = all | none;
        thought.settleFor(n);
        int north = thought.setOf(NORTH);
        return (north & all) == all && (north & none) == 0;
    }

    private boolean areNorthIfJustTheyGo(int set, int n) {
        thinkOfNow();
        thought.goingSet = set;
        thought.settleFor(n);
        return (thought.setOf(NORTH) & set) == set;
    }

    private boolean wearsAsToldIfJustHeGoes(int crosser, int n, Sheet told) {
        thinkOfNow();
        thought.goingSet = 1 << crosser;
        thought.settleFor(n);
        for (int i = 0; i < thought.places; i++) {
            if (thought.wears[i] != told.numbers[i]) {
                return false;
            }
        }
        return true;
    }

    private boolean isNorthFromPlace(int crosser, int n, int place) {
        thinkOfNow();
        thought.beat += place - thought.placeInRhyme();
        thought.goingSet |= 1 << crosser;
        thought.settleFor(n);
        return thought.crossers[crosser].state == NORTH;
    }

    /** With above 0 it is below itself, so that 0 comes out as 0 by 1. */
    private static int greatestShared(int above, int below) {
        for (int d = below; d > 1; d--) {
            if (above % d == 0 && below % d == 0) {
                return d;
            }
        }
        return 1;
    }

    private void drawWhoGoes() {
        int crosserCount = now.border.crosserCount;
        if (crosserCount > 0) {
            now.z = now.z * 1103515245 + 12345;
            now.border.goingSet ^= 1 << ((now.z >>> 8) % crosserCount);
        }
    }

    /** All that an image keeps. The laws stay the same objects, since the borders look into them. */
    private static final class Kept {
        final Law jumpsLaw = new Law(1, 9, Law.JUMPS_UNWRITTEN);
        final Law jumpedLaw = new Law(0, 1, Law.JUMPED_UNWRITTEN);
        final Border border = new Border(jumpsLaw, jumpedLaw);
        final int[] tape = new int[MOST_TAPE];
        final int[] waiting = new int[MOST_WAITING];
        int tapeSize;
        int waitingSize;
        int z = 1;

        Law lawOf(int use) {
            return use == JUMPS_USE ? jumpsLaw : jumpedLaw;
        }

        void copyFrom(Kept other) {
            jumpsLaw.takeCode(other.jumpsLaw.code, other.jumpsLaw.size);
            jumpedLaw.takeCode(other.jumpedLaw.code, other.jumpedLaw.size);
            border.copyFrom(other.border);
            System.arraycopy(other.tape, 0, tape, 0, MOST_TAPE);
            System.arraycopy(other.waiting, 0, waiting, 0, MOST_WAITING);
            tapeSize = other.tapeSize;
            waitingSize = other.waitingSize;
            z = other.z;
        }
    }

    /** The rope with all who turn and cross it: as it is, as it was kept, or as it is thought. */
    private static final class Border {
        final Law jumpsLaw;
        final Law jumpedLaw;
        final int[] wears = new int[MOST_PLACES];
        final Turner[] turners = new Turner[MOST_TURNERS];
        final Crosser[] crossers = new Crosser[MOST_CROSSERS];
        int places = 4;
        int rhymeLength = 4;
        int downSet = 1;
        int beat;
        int turnerCount;
        int turning;
        int crosserCount;
        int goingSet;

        Border(Law jumpsLaw, Law jumpedLaw) {
            this.jumpsLaw = jumpsLaw;
            this.jumpedLaw = jumpedLaw;
            for (int i = 0; i < MOST_TURNERS; i++) {
                turners[i] = new Turner();
            }
            for (int i = 0; i < MOST_CROSSERS; i++) {
                crossers[i] = new Crosser();
            }
        }

        void copyFrom(Border other) {
            System.arraycopy(other.wears, 0, wears, 0, MOST_PLACES);
            for (int i = 0; i < other.turnerCount; i++) {
                turners[i].copyFrom(other.turners[i]);
            }
            for (int i = 0; i < other.crosserCount; i++) {
                crossers[i].copyFrom(other.crossers[i]);
            }
            places = other.places;
            rhymeLength = other.rhymeLength;
            downSet = other.downSet;
            beat = other.beat;
            turnerCount = other.turnerCount;
            turning = other.turning;
            crosserCount = other.crosserCount;
            goingSet = other.goingSet;
        }

        void layRope(int n) {
            places = n;
            for (int i = 0; i < MOST_PLACES; i++) {
                wears[i] = 0;
            }
        }

        /** The caller has seen that there is room. */
        int addTurner(int strength) {
            int number = turnerCount;
            turners[number].strength = strength;
            turners[number].tired = 0;
            turnerCount++;
            return number;
        }

        /** The caller has seen that there is room. */
        int addCrosser(int km, int skill, int place) {
            int number = crosserCount;
            Crosser one = crossers[number];
            one.takeKind(km);
            one.skill = skill;
            one.load = 0;
            one.place = place;
            one.state = SOUTH;
            one.jumps = 0;
            crosserCount++;
            return number;
        }

        boolean isGoing(int crosser) {
            return ((goingSet >> crosser) & 1) == 1;
        }

        int placeInRhyme() {
            return rhymeLength > 0 ? beat % rhymeLength : 0;
        }

        boolean isStanding() {
            return turnerCount == 0 || turners[turning].strengthLeft() <= 0;
        }

        int needsOf(Crosser one) {
            return one.needsWith(jumpsLaw.gives(one.skill, one.load, rhymeLength));
        }

        int setOf(int state) {
            int set = 0;
            for (int i = 0; i < crosserCount; i++) {
                if (crossers[i].state == state) {
                    set |= 1 << i;
                }
            }
            return set;
        }

        int countOf(int state) {
            return Integer.bitCount(setOf(state));
        }

        int mostWear() {
            int most = 0;
            for (int i = 0; i < places; i++) {
                most = Math.max(most, wears[i]);
            }
            return most;
        }

        void turnFor(int n) {
            for (int i = 0; i < n; i++) {
                turnOnce();
            }
        }

        /**
         * As turnFor, as far as crossers and wear go: once nobody is in and nobody is about to run
         * in, no beat changes them any more, so the rest of the beats is left out.
         */
        void settleFor(int n) {
            for (int i = 0; i < n && isStirring(); i++) {
                turnOnce();
            }
        }

        private boolean isStirring() {
            return (setOf(IN) | (setOf(SOUTH) & goingSet)) != 0;
        }

        void turnOnce() {
            if (isStanding()) {
                letAllOver();
            } else {
                tireTurners();
                boolean isDown = ((downSet >> placeInRhyme()) & 1) == 1;
                for (int i = 0; i < crosserCount; i++) {
                    meetRope(crossers[i], isGoing(i), isDown);
                }
            }
            beat++;
        }

        private void letAllOver() {
            for (int i = 0; i < crosserCount; i++) {
                Crosser one = crossers[i];
                if (one.state == IN || (one.state == SOUTH && isGoing(i))) {
                    one.state = NORTH;
                }
            }
        }

        private void tireTurners() {
            for (int i = 0; i < turnerCount; i++) {
                Turner one = turners[i];
                one.tired = i == turning
                    ? Math.min(one.tired + 1, MOST_TIRED)
                    : Math.max(one.tired - 1, 0);
            }
        }

        private void meetRope(Crosser one, boolean goes, boolean isDown) {
            if (one.state == IN && isDown) {
                jumpOrTrip(one);
            } else if (one.state == IN && one.jumps == 0) {
                one.state = NORTH;
            } else if (one.state == SOUTH && goes && !isDown && isFree(one.place)) {
                one.state = IN;
                one.jumps = needsOf(one);
            }
        }

        private void jumpOrTrip(Crosser one) {
            int wear = wears[one.place];
            if (jumpedLaw.gives(one.skill, wear, placeInRhyme()) == 1) {
                one.jumps = Math.max(one.jumps - 1, 0);
                wears[one.place] = Math.min(wear + one.wearsByJump(), MOST_WEAR);
            } else {
                one.state = HELD;
            }
        }

        private boolean isFree(int place) {
            for (int i = 0; i < crosserCount; i++) {
                if (crossers[i].state == IN && crossers[i].place == place) {
                    return false;
                }
            }
            return true;
        }
    }

    private static final class Turner {
        int strength;
        int tired;

        int strengthLeft() {
            return strength - tired;
        }

        void copyFrom(Turner other) {
            strength = other.strength;
            tired = other.tired;
        }
    }

    private static final class Crosser {
        static final int WHAT_SKILL = 0;
        static final int WHAT_LOAD = 1;
        static final int WHAT_PLACE = 2;
        static final int WHAT_STATE = 3;

        int kind;
        int m;
        int skill;
        int load;
        int place;
        int state;
        int jumps;

        void copyFrom(Crosser other) {
            kind = other.kind;
            m = other.m;
            skill = other.skill;
            load = other.load;
            place = other.place;
            state = other.state;
            jumps = other.jumps;
        }

        void takeKind(int km) {
            kind = km / 10;
            m = km % 10;
        }

        boolean isOfKind(int asked) {
            int at = kind;
            for (int i = 0; i < KIND_ABOVE.length && at != NO_KIND; i++) {
                if (at == asked) {
                    return true;
                }
                at = KIND_ABOVE[at];
            }
            return false;
        }

        int exchange(int what, int v) {
            int before;
            switch (what) {
                case WHAT_SKILL:
                    before = skill;
                    skill = v;
                    return before;
                case WHAT_LOAD:
                    before = load;
                    load = v;
                    return before;
                case WHAT_PLACE:
                    before = place;
                    place = v;
                    return before;
                default:
                    before = state;
                    state = v;
                    jumps = 0;
                    return before;
            }
        }

        int needsWith(int v) {
            switch (kind) {
                case SMUGGLER: return Math.max(v - 1, 1);
                case CARTER: return v + m % 3;
                case CHILD: return 1;
                case ARMY: return Math.max(v - 1, 1) + 2;
                case TOURIST: return 2 * (v + m % 3);
                case LOVER: return 1 + 2;
                default: return v;
            }
        }

        int wearsByJump() {
            switch (kind) {
                case SMUGGLER: return 0;
                case CARTER:
                case TOURIST: return 1 + load / 10;
                case ARMY: return m;
                case LOVER: return 2;
                default: return 1;
            }
        }
    }

    /**
     * What a use gives: a text as a row in which what is worked on stands ahead of its sign.
     * Numbers are themselves, the names are -1, -2, -3, a sign is its byte below 0.
     */
    private static final class Law {
        static final int[] JUMPS_UNWRITTEN = {1, -2, 20, -'/', -'+'};
        static final int[] JUMPED_UNWRITTEN = {-2, 100, -1, 1, -'+', -'*', -'<'};

        final int[] code = new int[MOST_TAPE];
        final int[] stack = new int[MOST_TAPE];
        final int least;
        final int most;
        int size;

        Law(int least, int most, int[] unwritten) {
            this.least = least;
            this.most = most;
            takeCode(unwritten, unwritten.length);
        }

        void takeCode(int[] from, int length) {
            size = Math.min(Math.min(length, from.length), code.length);
            System.arraycopy(from, 0, code, 0, size);
        }

        int gives(int a, int b, int c) {
            int top = 0;
            for (int i = 0; i < size; i++) {
                int item = code[i];
                if (item >= -3 && top < stack.length) {
                    stack[top] = item >= 0 ? item : item == -1 ? a : item == -2 ? b : c;
                    top++;
                } else if (item == -'!' && top >= 1) {
                    stack[top - 1] = stack[top - 1] == 0 ? 1 : 0;
                } else if (top >= 2) {
                    top--;
                    stack[top - 1] = joined(-item, stack[top - 1], stack[top]);
                }
            }
            return Math.max(least, Math.min(most, stack[0]));
        }

        private static int joined(int sign, int x, int y) {
            switch (sign) {
                case '|': return x != 0 || y != 0 ? 1 : 0;
                case '&': return x != 0 && y != 0 ? 1 : 0;
                case '<': return x < y ? 1 : 0;
                case '=': return x == y ? 1 : 0;
                case '>': return x > y ? 1 : 0;
                case '+': return x + y;
                case '-': return x - y;
                case '*': return x * y;
                case '/': return y == 0 ? 0 : x / y;
                default: return y == 0 ? 0 : x % y;
            }
        }
    }

    /** Reads the tape into code for a law. Where it can't go on it stays: there is the fault. */
    private static final class Reader {
        static final String JUMPS_NAMES = "klp";
        static final String JUMPED_NAMES = "kwb";
        static final int END = -1;
        static final int COMPARING = 2;
        static final int UNIT = 5;
        static final int NO_LEVEL = -1;
        static final int MOST_OPEN = 5;
        static final int MOST_DIGITS = 4;

        final int[] tape;
        final int[] code = new int[MOST_TAPE];
        int size;
        int length;
        int at;
        String names = JUMPS_NAMES;

        Reader(int[] tape) {
            this.tape = tape;
        }

        boolean reads(int tapeSize, int use) {
            names = use == JUMPS_USE ? JUMPS_NAMES : JUMPED_NAMES;
            length = Math.min(tapeSize, tape.length);
            size = 0;
            at = 0;
            return readLevel(0, 0) && at == length;
        }

        private int ahead() {
            return at < length ? tape[at] : END;
        }

        private void write(int item) {
            if (size < code.length) {
                code[size] = item;
                size++;
            }
        }

        private static int levelOf(int sign) {
            switch (sign) {
                case '|': return 0;
                case '&': return 1;
                case '<':
                case '=':
                case '>': return COMPARING;
                case '+':
                case '-': return 3;
                case '*':
                case '/':
                case '%': return 4;
                default: return NO_LEVEL;
            }
        }

        /** Levels are the document's T, A, B, S, P; only B takes one sign at most. */
        private boolean readLevel(int level, int open) {
            if (level >= UNIT) {
                return readUnit(open);
            }
            if (!readLevel(level + 1, open)) {
                return false;
            }
            int signs = level == COMPARING ? 1 : MOST_TAPE;
            for (int i = 0; i < signs && levelOf(ahead()) == level; i++) {
                int sign = ahead();
                at++;
                if (!readLevel(level + 1, open)) {
                    return false;
                }
                write(-sign);
            }
            return true;
        }

        private boolean readUnit(int open) {
            int sign = ahead();
            if (isDigit(sign)) {
                readNumber();
                return true;
            }
            if (sign == '!' || sign == '(') {
                return open < MOST_OPEN && readOpened(sign, open + 1);
            }
            int name = sign == END ? -1 : names.indexOf((char) sign);
            if (name < 0) {
                return false;
            }
            write(-1 - name);
            at++;
            return true;
        }

        private boolean readOpened(int sign, int open) {
            at++;
            if (sign == '!') {
                boolean isRead = readUnit(open);
                write(-'!');
                return isRead;
            }
            if (!readLevel(0, open) || ahead() != ')') {
                return false;
            }
            at++;
            return true;
        }

        private static boolean isDigit(int sign) {
            return sign >= '0' && sign <= '9';
        }

        private void readNumber() {
            int value = 0;
            for (int i = 0; i < MOST_DIGITS && isDigit(ahead()); i++) {
                value = value * 10 + ahead() - '0';
                at++;
            }
            write(value);
        }
    }

    /** The bodies of what a crosser says, and which of them the latest voice went through. */
    private static final class Voices {
        static final int ACTS = 4;
        static final int COUNTS = 0;
        static final int JUMPS = 1;
        static final int TRIPS = 2;
        static final int RUNS = 3;
        static final int MOST_TRACED = 40;
        static final int MOST_DEEP = 40;
        /** By kind and act; 0 where the kind leaves the act to the kind above. */
        static final int[] BODIES = {
            10, 11, 12, 13,
            20, 0, 0, 0,
            0, 30, 0, 0,
            0, 0, 40, 0,
            0, 0, 0, 50,
            0, 60, 0, 0,
            0, 0, 70, 71
        };

        final int[] bodies = new int[MOST_TRACED];
        int traced;
        int kind;
        int n;
        int m;

        int speak(int ownKind, int number, int ownM, int act, int x) {
            kind = ownKind;
            n = number;
            m = ownM;
            traced = 0;
            return say(ownKind, act, x, 0);
        }

        /** The act as the kind that is asked, or the next above that has a body for it, says it. */
        private int say(int asked, int act, int x, int deep) {
            int at = asked;
            for (int i = 0; i < KIND_ABOVE.length && at != NO_KIND; i++) {
                int body = BODIES[at * ACTS + act];
                if (body != 0) {
                    return deep < MOST_DEEP ? work(body, KIND_ABOVE[at], x, deep + 1) : 0;
                }
                at = KIND_ABOVE[at];
            }
            return 0;
        }

        private int work(int body, int above, int x, int deep) {
            if (traced < MOST_TRACED) {
                bodies[traced] = body;
                traced++;
            }
            switch (body) {
                case 10: return x + n;
                case 11: return say(kind, COUNTS, x, deep) * 2;
                case 12: return x - m;
                case 13: return say(kind, JUMPS, x, deep) ^ say(kind, TRIPS, x, deep);
                case 20: return say(above, COUNTS, x, deep) * 3;
                case 30: return say(above, JUMPS, x, deep) - say(kind, TRIPS, 1, deep);
                case 40: return -say(above, TRIPS, x, deep);
                case 50: return say(above, RUNS, x, deep) - say(kind, COUNTS, 2, deep);
                case 60: return say(above, JUMPS, x + 1, deep);
                case 70: return say(above, TRIPS, x, deep) ^ n;
                case 71: return say(kind, JUMPS, x, deep) - say(above, RUNS, x, deep);
                default: return 0;
            }
        }
    }

    /** A row of numbers; its room is made once, so that laying it anew makes nothing. */
    private static final class Sheet {
        final int[] numbers = new int[MOST_NUMBERS];
        int bits;
        int size;

        boolean isMissing() {
            return bits == 0;
        }

        void clearTo(int newBits, int newSize) {
            bits = newBits;
            size = newSize;
            for (int i = 0; i < MOST_NUMBERS; i++) {
                numbers[i] = 0;
            }
        }

        void write(int i, int v) {
            numbers[i] = bits == 8 ? (byte) v : bits == 16 ? (short) v : v;
        }

        boolean hasRun(int from, int n) {
            return from >= 0 && n >= 0 && from <= size - n;
        }
    }
}
