/** A municipal sand pit whose ledger puts every visitor's shape up again; ../shared/DOC.md tells its promises. */
public final class SandLedger {
    private static final int LOW = -1000001;
    private static final int BEYOND = 0;
    private static final int FULL = 1;
    private static final int KIND = 2;
    private static final int NONE = 3;
    private static final int STATE = 4;
    private static final int MISSING = 5;
    private static final int SIZE = 6;
    private static final int FINDINGS = 7;

    private static final int CELLS = 16;
    private static final int SAND_AT_FIRST = 5;
    private static final int SAND_MOST = 30;
    private static final int ROAD_SAND = 5;

    private static final int STORE = 0;
    private static final int WIND = 1;
    private static final int WET = 2;
    private static final int[] SETTING_FIRST = {100, 1, 2};
    private static final int[] SETTING_MOST = {9999, 5, 9};

    private static final int VISITORS = 8;
    private static final int VISITOR = 0;
    private static final int CHILD = 1;
    private static final int LOVER = 2;
    private static final int BOY = 3;
    private static final int DIGGER = 4;
    private static final int TRAVELLER = 5;
    private static final int BRIDE = 6;
    private static final int KINDS = 7;
    private static final int[] KIND_ABOVE = {-1, VISITOR, VISITOR, CHILD, BOY, VISITOR, LOVER};

    /** Traits of a visitor, numbered as of() and change() tell them. */
    private static final int OF_KIND = 0;
    private static final int FROM = 1;
    private static final int WIDE = 2;
    private static final int HIGH = 3;
    private static final int EACH = 4;
    private static final int AGE = 5;
    private static final int BUILT = 6;
    private static final int TRAITS = 7;
    private static final int[] TRAIT_FIRST = {0, 0, 3, 8, 2, 0, 0};
    private static final int[] TRAIT_LEAST = {0, 0, 1, 0, 1, 0, 0};
    private static final int[] TRAIT_MOST = {6, 15, 8, 20, 9, 9999, 9999};

    private static final int DAY_MOST = 99999;
    private static final int GO_MOST = 60;
    private static final int FORESEEN_MOST = 100;
    private static final int PLANNED_MOST = 40;
    private static final int AWAY_MOST = 12;
    private static final int TOLD_MOST = 20;
    private static final int COMINGS_MOST = 20;
    private static final int ODDS_MOST = 15;

    private static final int SPOTS = 10;
    private static final int NOBODY = -1;
    private static final int SHEETS = 4;
    private static final int NUMBERS = 40;
    private static final int ANY = -1;
    private static final int TAPE_BYTES = 120;

    /** What waitFor() waits for. */
    private static final int ALL_STAND = 0;
    private static final int ROAD_IS_LONG = 1;
    private static final int STORE_IS_EMPTY = 2;

    private final Pit pit = new Pit();
    private final Pit kept = new Pit();
    /** What will be is tried out here, so that no call makes a new pit. */
    private final Pit trial = new Pit();
    private final TextReader reader = new TextReader();
    private final Tape tape = reader.tape;
    private final Sheet[] sheets = new Sheet[SHEETS];
    private final int[] findings = new int[FINDINGS];
    private boolean isKept;

    public SandLedger() {
        for (int s = 0; s < SHEETS; s++) {
            sheets[s] = new Sheet();
        }
    }

    // ---- pit, visitors

    public int sand(int cell, int v) {
        if (!within(cell, 0, CELLS - 1) || !within(v, 0, SAND_MOST)) {
            return found(BEYOND);
        }
        int was = pit.heaps[cell];
        pit.heaps[cell] = v;
        return was;
    }

    public int cell(int cell, int what) {
        if (!within(cell, 0, CELLS - 1) || !within(what, 0, 1)) {
            return found(BEYOND);
        }
        return what == 0 ? pit.heaps[cell] : pit.visitorsAt(cell);
    }

    public int set(int what, int v) {
        if (!within(what, STORE, WET) || !within(v, 0, SETTING_MOST[what])) {
            return found(BEYOND);
        }
        int was = pit.settings[what];
        pit.settings[what] = v;
        return was;
    }

    public int visitor(int kind, int from) {
        if (!within(kind, 0, KINDS - 1) || !within(from, 0, CELLS - 1)) {
            return found(BEYOND);
        }
        if (pit.isFull()) {
            return found(FULL);
        }
        return pit.admit(kind, from);
    }

    public int of(int visitor, int what) {
        if (!isVisitor(visitor) || !within(what, 0, 10)) {
            return found(BEYOND);
        }
        switch (what) {
            case 7:
                return pit.spanOf(visitor);
            case 8:
                return pit.raisesOf(visitor);
            case 9:
                return pit.movesOf(visitor);
            case 10:
                return pit.isUp(visitor) ? 1 : 0;
            default:
                return pit.traits[what][visitor];
        }
    }

    public int change(int visitor, int what, int v) {
        if (!isVisitor(visitor) || !within(what, 0, TRAITS - 1) || !isTrait(what, v)) {
            return found(BEYOND);
        }
        int was = pit.traits[what][visitor];
        pit.traits[what][visitor] = v;
        return was;
    }

    public int come(int visitor) {
        if (!isVisitor(visitor)) {
            return found(BEYOND);
        }
        return pit.receive(visitor);
    }

    // ---- days

    public int go(int n) {
        if (!within(n, 1, GO_MOST)) {
            return found(BEYOND);
        }
        if (pit.day + n > DAY_MOST) {
            return found(STATE);
        }
        pit.passDays(n, 0);
        return pit.roadLength();
    }

    public int now(int what) {
        switch (what) {
            case 0:
                return pit.day;
            case 1:
                return pit.roadLength();
            case 2:
                return pit.sandInAll();
            case 3:
                return pit.settings[STORE];
            case 4:
                return pit.standing();
            case 5:
                return pit.highestCell();
            case 6:
                return pit.builtInAll();
            case 7:
                return pit.comingToday();
            default:
                return found(BEYOND);
        }
    }

    // ---- what will be

    public int high(int cell, int n) {
        if (!within(cell, 0, CELLS - 1) || !within(n, 0, FORESEEN_MOST)) {
            return found(BEYOND);
        }
        trial.become(pit);
        trial.passDays(n, 0);
        return trial.heaps[cell];
    }

    public int built(int visitor, int n) {
        if (!isVisitor(visitor) || !within(n, 0, FORESEEN_MOST)) {
            return found(BEYOND);
        }
        trial.become(pit);
        trial.passDays(n, 0);
        return trial.traits[BUILT][visitor];
    }

    public int stands(int visitor) {
        if (!isVisitor(visitor)) {
            return found(BEYOND);
        }
        return waitFor(ALL_STAND, 1 << visitor);
    }

    public int road(int v) {
        if (!within(v, 0, CELLS)) {
            return found(BEYOND);
        }
        return waitFor(ROAD_IS_LONG, v);
    }

    public int both(int a, int b) {
        if (!isVisitor(a) || !isVisitor(b) || a == b) {
            return found(BEYOND);
        }
        return waitFor(ALL_STAND, 1 << a | 1 << b);
    }

    public int empty() {
        return waitFor(STORE_IS_EMPTY, 0);
    }

    // ---- how to build

    public int fromFor(int visitor, int n) {
        if (!isVisitor(visitor) || !within(n, 0, PLANNED_MOST)) {
            return found(BEYOND);
        }
        return forLongestRoad(visitor, FROM, n);
    }

    public int wideFor(int visitor, int v, int n) {
        if (!isVisitor(visitor) || !within(v, 0, TRAIT_MOST[BUILT]) || !within(n, 0, PLANNED_MOST)) {
            return found(BEYOND);
        }
        for (int wide = TRAIT_MOST[WIDE]; wide >= TRAIT_LEAST[WIDE]; wide--) {
            tryTrait(visitor, WIDE, wide, n);
            if (trial.traits[BUILT][visitor] >= v) {
                return wide;
            }
        }
        return found(NONE);
    }

    public int eachFor(int visitor, int n) {
        if (!isVisitor(visitor) || !within(n, 0, PLANNED_MOST)) {
            return found(BEYOND);
        }
        for (int each = TRAIT_MOST[EACH]; each >= TRAIT_LEAST[EACH]; each--) {
            tryTrait(visitor, EACH, each, n);
            if (trial.isUp(visitor)) {
                return each;
            }
        }
        return found(NONE);
    }

    public int kindFor(int visitor, int n) {
        if (!isVisitor(visitor) || !within(n, 0, PLANNED_MOST)) {
            return found(BEYOND);
        }
        return forLongestRoad(visitor, OF_KIND, n);
    }

    public int windFor(int visitor, int n) {
        if (!isVisitor(visitor) || !within(n, 0, PLANNED_MOST)) {
            return found(BEYOND);
        }
        for (int wind = SETTING_MOST[WIND]; wind >= 0; wind--) {
            trial.become(pit);
            trial.settings[WIND] = wind;
            trial.passDays(n, 0);
            if (trial.isUp(visitor)) {
                return wind;
            }
        }
        return found(NONE);
    }

    public int away(int visitor, int n) {
        if (!isVisitor(visitor) || !within(n, 0, AWAY_MOST)) {
            return found(BEYOND);
        }
        for (int size = 0; size <= pit.visitors; size++) {
            for (int absent = 0; absent < 1 << pit.visitors; absent++) {
                if (Integer.bitCount(absent) == size && isUpWithout(absent, visitor, n)) {
                    return absent;
                }
            }
        }
        return found(NONE);
    }

    // ---- by told sand

    public int fits(int s, int visitor, int n) {
        return toldBy(s, visitor, FROM, n);
    }

    public int kinds(int s, int visitor, int n) {
        return toldBy(s, visitor, OF_KIND, n);
    }

    // ---- comings by draws

    public int comings(int n) {
        if (!within(n, 1, COMINGS_MOST)) {
            return found(BEYOND);
        }
        if (pit.day + n > DAY_MOST) {
            return found(STATE);
        }
        for (int time = 0; time < n; time++) {
            int visitor = pit.draw() % VISITORS;
            int from = pit.draw() % CELLS;
            if (isVisitor(visitor)) {
                pit.traits[FROM][visitor] = from;
                pit.receive(visitor);
            }
            pit.passDays(1, 0);
        }
        return pit.roadLength();
    }

    public long odds(int n, int what) {
        if (!within(n, 0, ODDS_MOST) || !within(what, 0, 1)) {
            return found(BEYOND);
        }
        int above = pit.roadCells();
        int below = CELLS;
        // Sixteen is four twos, so halving is all that lowest terms can ask.
        for (int halving = 0; halving < 4 && above % 2 == 0; halving++) {
            above /= 2;
            below /= 2;
        }
        return power(what == 0 ? above : below, n);
    }

    public int seed(int v) {
        int was = pit.z;
        pit.z = v;
        return was;
    }

    // ---- texts

    public int feed(int bytes, int n) {
        if (!within(n, 1, 4)) {
            return found(BEYOND);
        }
        if (tape.length + n > TAPE_BYTES) {
            return found(FULL);
        }
        tape.append(bytes, n);
        return tape.length;
    }

    public int wipe() {
        int had = tape.length;
        tape.length = 0;
        return had;
    }

    public int text() {
        // A fault must leave no trace, so the items are carried out on the trial pit first.
        trial.become(pit);
        int items = reader.readText(trial);
        if (items >= 0) {
            pit.become(trial);
        }
        tape.length = 0;
        return items;
    }

    // ---- spots, sheets

    public int hold(int spot, int visitor) {
        if (!within(spot, 0, SPOTS - 1) || visitor != NOBODY && !isVisitor(visitor)) {
            return found(BEYOND);
        }
        pit.spots[spot] = visitor;
        return 1;
    }

    public int as(int spot, int kind) {
        if (!within(spot, 0, SPOTS - 1) || !within(kind, 0, KINDS - 1)) {
            return found(BEYOND);
        }
        int visitor = pit.spots[spot];
        if (!isVisitor(visitor)) {
            return found(MISSING);
        }
        return isOfKind(pit.traits[OF_KIND][visitor], kind) ? visitor : found(KIND);
    }

    public int sheet(int s, int bits, int n) {
        if (!isSheet(s) || bits != 0 && bits != 8 && bits != 16 && bits != 32) {
            return found(BEYOND);
        }
        if (n < 0) {
            return found(SIZE);
        }
        if (n > NUMBERS) {
            return found(BEYOND);
        }
        sheets[s].layOut(bits, n);
        return sheets[s].size;
    }

    public int write(int s, int i, int v) {
        if (!isSheet(s)) {
            return found(BEYOND);
        }
        Sheet sheet = sheets[s];
        if (sheet.isMissing()) {
            return found(MISSING);
        }
        if (!within(i, 0, sheet.size - 1)) {
            return found(BEYOND);
        }
        sheet.put(i, v);
        return 1;
    }

    public int copy(int s, int from, int t, int to, int n) {
        if (!isSheet(s) || !isSheet(t)) {
            return found(BEYOND);
        }
        Sheet source = sheets[s];
        Sheet target = sheets[t];
        if (source.isMissing() || target.isMissing()) {
            return found(MISSING);
        }
        if (source.bits != target.bits) {
            return found(KIND);
        }
        if (!source.hasPart(from, n) || !target.hasPart(to, n)) {
            return found(BEYOND);
        }
        System.arraycopy(source.numbers, from, target.numbers, to, n);
        return n;
    }

    public int load(int s) {
        if (!isSheet(s)) {
            return found(BEYOND);
        }
        Sheet sheet = sheets[s];
        if (sheet.isMissing()) {
            return found(MISSING);
        }
        int end = Math.min(sheet.size, CELLS);
        for (int i = 0; i < end; i++) {
            if (!within(sheet.numbers[i], 0, SAND_MOST)) {
                return i;
            }
            pit.heaps[i] = sheet.numbers[i];
        }
        return end;
    }

    public int judge(int s) {
        if (!isSheet(s)) {
            return found(BEYOND);
        }
        Sheet sheet = sheets[s];
        if (sheet.isMissing()) {
            return found(MISSING);
        }
        for (int i = 0; i < sheet.size; i++) {
            if (!isVisitor(i) || pit.traits[BUILT][i] != sheet.numbers[i]) {
                return 1 + i;
            }
        }
        return 0;
    }

    // ---- images

    public int image() {
        kept.become(pit);
        isKept = true;
        return 1;
    }

    public int undo() {
        if (!isKept) {
            return found(NONE);
        }
        pit.become(kept);
        return pit.day;
    }

    public int tear() {
        int was = isKept ? 1 : 0;
        isKept = false;
        return was;
    }

    public int count(int what) {
        switch (what) {
            case 0:
                return pit.day;
            case 1:
                return pit.visitors;
            case 2:
                return pit.sandInAll();
            case 3:
                return pit.settings[STORE];
            case 4:
                return pit.builtInAll();
            case 5:
                return tape.length;
            case 6:
                return pit.z;
            case 7:
                return pit.spotsHolding();
            default:
                return found(BEYOND);
        }
    }

    public int status(int which) {
        if (!within(which, -1, FINDINGS - 1)) {
            return found(BEYOND);
        }
        return which == -1 ? findingsInAll() : findings[which];
    }

    // ---- what the calls share

    private static boolean within(int v, int least, int most) {
        return v >= least && v <= most;
    }

    private static boolean isTrait(int what, int v) {
        return within(v, TRAIT_LEAST[what], TRAIT_MOST[what]);
    }

    private static boolean isSheet(int s) {
        return within(s, 0, SHEETS - 1);
    }

    private static boolean isOfKind(int kind, int wanted) {
        int at = kind;
        for (int level = 0; level < KINDS && at >= 0; level++) {
            if (at == wanted) {
                return true;
            }
            at = KIND_ABOVE[at];
        }
        return false;
    }

    private static long power(int base, int exponent) {
        long product = 1;
        for (int i = 0; i < exponent; i++) {
            product *= base;
        }
        return product;
    }

    private boolean isVisitor(int visitor) {
        return within(visitor, 0, pit.visitors - 1);
    }

    private int found(int finding) {
        findings[finding]++;
        return LOW - finding;
    }

    private int findingsInAll() {
        int all = 0;
        for (int f = 0; f < FINDINGS; f++) {
            all += findings[f];
        }
        return all;
    }

    private int waitFor(int wish, int v) {
        trial.become(pit);
        for (int days = 0; days <= FORESEEN_MOST; days++) {
            if (isGranted(wish, v)) {
                return days;
            }
            trial.passDays(1, 0);
        }
        return found(NONE);
    }

    private boolean isGranted(int wish, int v) {
        switch (wish) {
            case ALL_STAND:
                return (trial.standing() & v) == v;
            case ROAD_IS_LONG:
                return trial.roadLength() >= v;
            default:
                return trial.settings[STORE] == 0;
        }
    }

    private void tryTrait(int visitor, int trait, int v, int n) {
        trial.become(pit);
        trial.traits[trait][visitor] = v;
        trial.passDays(n, 0);
    }

    private int forLongestRoad(int visitor, int trait, int n) {
        int best = TRAIT_LEAST[trait];
        int longest = -1;
        for (int v = TRAIT_LEAST[trait]; v <= TRAIT_MOST[trait]; v++) {
            tryTrait(visitor, trait, v, n);
            int length = trial.roadLength();
            if (length > longest) {
                longest = length;
                best = v;
            }
        }
        return best;
    }

    private boolean isUpWithout(int absent, int visitor, int n) {
        trial.become(pit);
        trial.passDays(n, absent);
        return trial.isUp(visitor);
    }

    private int toldBy(int s, int visitor, int trait, int n) {
        if (!isSheet(s)) {
            return found(BEYOND);
        }
        Sheet sheet = sheets[s];
        if (sheet.isMissing()) {
            return found(MISSING);
        }
        if (!isVisitor(visitor) || !within(n, 0, TOLD_MOST)) {
            return found(BEYOND);
        }
        int fitting = 0;
        for (int v = TRAIT_LEAST[trait]; v <= TRAIT_MOST[trait]; v++) {
            tryTrait(visitor, trait, v, n);
            if (sheet.tells(trial.heaps)) {
                fitting |= 1 << v;
            }
        }
        return fitting;
    }

    /** All that an image keeps. */
    private static final class Pit {
        final int[] heaps = new int[CELLS];
        final int[] settings = new int[3];
        /** By trait, then by visitor. */
        final int[][] traits = new int[TRAITS][VISITORS];
        final int[] spots = new int[SPOTS];
        int visitors;
        int day;
        int z = 1;

        Pit() {
            for (int cell = 0; cell < CELLS; cell++) {
                heaps[cell] = SAND_AT_FIRST;
            }
            for (int what = STORE; what <= WET; what++) {
                settings[what] = SETTING_FIRST[what];
            }
            for (int spot = 0; spot < SPOTS; spot++) {
                spots[spot] = NOBODY;
            }
        }

        void become(Pit other) {
            System.arraycopy(other.heaps, 0, heaps, 0, CELLS);
            System.arraycopy(other.settings, 0, settings, 0, WET + 1);
            for (int trait = 0; trait < TRAITS; trait++) {
                System.arraycopy(other.traits[trait], 0, traits[trait], 0, VISITORS);
            }
            System.arraycopy(other.spots, 0, spots, 0, SPOTS);
            visitors = other.visitors;
            day = other.day;
            z = other.z;
        }

        boolean isFull() {
            return visitors >= VISITORS;
        }

        /** The new visitor's number, or NOBODY if there is no room. */
        int admit(int kind, int from) {
            if (isFull()) {
                return NOBODY;
            }
            for (int trait = 0; trait < TRAITS; trait++) {
                traits[trait][visitors] = TRAIT_FIRST[trait];
            }
            traits[OF_KIND][visitors] = kind;
            traits[FROM][visitors] = from;
            visitors++;
            return visitors - 1;
        }

        int leastCell(int visitor) {
            int from = traits[FROM][visitor];
            switch (traits[OF_KIND][visitor]) {
                case LOVER:
                case BRIDE:
                    return Math.max(0, from - traits[WIDE][visitor] + 1);
                default:
                    return from;
            }
        }

        int greatestCell(int visitor) {
            int from = traits[FROM][visitor];
            switch (traits[OF_KIND][visitor]) {
                case LOVER:
                case TRAVELLER:
                    return from;
                case BRIDE:
                    return Math.min(CELLS - 1, from + 1);
                default:
                    return Math.min(CELLS - 1, from + traits[WIDE][visitor] - 1);
            }
        }

        int spanOf(int visitor) {
            int span = 0;
            int greatest = greatestCell(visitor);
            for (int cell = leastCell(visitor); cell <= greatest; cell++) {
                span |= 1 << cell;
            }
            return span;
        }

        int raisesOf(int visitor) {
            int high = traits[HIGH][visitor];
            switch (traits[OF_KIND][visitor]) {
                case CHILD:
                    return high + settings[WET] / 3;
                case BOY:
                    return Math.min(SAND_MOST, high + settings[WET] / 3 + traits[AGE][visitor] / 10);
                case DIGGER:
                    return 0;
                case LOVER:
                    return high / 2;
                case BRIDE:
                    return high / 2 + 2;
                default:
                    return high;
            }
        }

        int movesOf(int visitor) {
            switch (traits[OF_KIND][visitor]) {
                case CHILD:
                    return 20;
                case BOY:
                case DIGGER:
                    return 40;
                case BRIDE:
                    return 12 - settings[WIND];
                case TRAVELLER:
                    return 1;
                default:
                    return 12;
            }
        }

        boolean isDigger(int visitor) {
            return traits[OF_KIND][visitor] == DIGGER;
        }

        boolean isUp(int visitor) {
            int raises = raisesOf(visitor);
            int greatest = greatestCell(visitor);
            boolean digs = isDigger(visitor);
            for (int cell = leastCell(visitor); cell <= greatest; cell++) {
                if (digs ? heaps[cell] > raises : heaps[cell] < raises) {
                    return false;
                }
            }
            return true;
        }

        /** How much sand the visitor moved. */
        int receive(int visitor) {
            int moved = isDigger(visitor) ? dig(visitor) : heapUp(visitor);
            if (isUp(visitor)) {
                traits[BUILT][visitor] = Math.min(TRAIT_MOST[BUILT], traits[BUILT][visitor] + 1);
            }
            return moved;
        }

        int heapUp(int visitor) {
            int raises = raisesOf(visitor);
            int greatest = greatestCell(visitor);
            int able = Math.min(movesOf(visitor), settings[STORE]);
            int left = able;
            for (int cell = leastCell(visitor); cell <= greatest; cell++) {
                int gets = Math.max(0, Math.min(left, raises - heaps[cell]));
                heaps[cell] += gets;
                left -= gets;
            }
            settings[STORE] -= able - left;
            return able - left;
        }

        int dig(int visitor) {
            int raises = raisesOf(visitor);
            int greatest = greatestCell(visitor);
            int able = movesOf(visitor);
            int left = able;
            for (int cell = leastCell(visitor); cell <= greatest; cell++) {
                int gives = Math.max(0, Math.min(left, heaps[cell] - raises));
                heaps[cell] -= gives;
                left -= gives;
            }
            settings[STORE] = Math.min(SETTING_MOST[STORE], settings[STORE] + able - left);
            return able - left;
        }

        boolean comesToday(int visitor) {
            int each = traits[EACH][visitor];
            return each > 0 && day % each == 0;
        }

        /** Visitors of the set absent don't come, but grow older all the same. */
        void passDays(int n, int absent) {
            for (int i = 0; i < n; i++) {
                for (int visitor = 0; visitor < visitors; visitor++) {
                    if ((absent >> visitor & 1) == 0 && comesToday(visitor)) {
                        receive(visitor);
                    }
                }
                ageByADay();
                blow();
                day = Math.min(DAY_MOST, day + 1);
            }
        }

        void ageByADay() {
            for (int visitor = 0; visitor < visitors; visitor++) {
                traits[AGE][visitor] = Math.min(TRAIT_MOST[AGE], traits[AGE][visitor] + 1);
            }
        }

        void blow() {
            for (int gust = 0; gust < settings[WIND]; gust++) {
                int slid = slide(0, 1) + slide(CELLS - 1, -1);
                if (slid == 0) {
                    return; // what lies still now lies still in every further gust
                }
            }
        }

        /**
         * Sand slides by one cell in the direction of step, all at once: a cell's heap is looked at before it gets
         * what its neighbour sheds. A cell that gets sand is below 28, so none comes to be above 30.
         */
        int slide(int begin, int step) {
            int steep = settings[WET] + 2;
            int slid = 0;
            int shed = 0;
            for (int i = 0; i < CELLS - 1; i++) {
                int cell = begin + i * step;
                int sheds = heaps[cell] > heaps[cell + step] + steep ? 1 : 0;
                heaps[cell] += shed - sheds;
                shed = sheds;
                slid += sheds;
            }
            heaps[begin + (CELLS - 1) * step] += shed;
            return slid;
        }

        int roadLength() {
            int longest = 0;
            int length = 0;
            for (int cell = 0; cell < CELLS; cell++) {
                length = heaps[cell] >= ROAD_SAND ? length + 1 : 0;
                longest = Math.max(longest, length);
            }
            return longest;
        }

        int roadCells() {
            int cells = 0;
            for (int cell = 0; cell < CELLS; cell++) {
                if (heaps[cell] >= ROAD_SAND) {
                    cells++;
                }
            }
            return cells;
        }

        int highestCell() {
            int highest = 0;
            for (int cell = 1; cell < CELLS; cell++) {
                if (heaps[cell] > heaps[highest]) {
                    highest = cell;
                }
            }
            return highest;
        }

        int sandInAll() {
            int all = 0;
            for (int cell = 0; cell < CELLS; cell++) {
                all += heaps[cell];
            }
            return all;
        }

        int builtInAll() {
            int all = 0;
            for (int visitor = 0; visitor < visitors; visitor++) {
                all += traits[BUILT][visitor];
            }
            return all;
        }

        int spotsHolding() {
            int holding = 0;
            for (int spot = 0; spot < SPOTS; spot++) {
                if (spots[spot] != NOBODY) {
                    holding++;
                }
            }
            return holding;
        }

        int visitorsAt(int cell) {
            int those = 0;
            for (int visitor = 0; visitor < visitors; visitor++) {
                if (within(cell, leastCell(visitor), greatestCell(visitor))) {
                    those |= 1 << visitor;
                }
            }
            return those;
        }

        int standing() {
            int those = 0;
            for (int visitor = 0; visitor < visitors; visitor++) {
                if (isUp(visitor)) {
                    those |= 1 << visitor;
                }
            }
            return those;
        }

        int comingToday() {
            int those = 0;
            for (int visitor = 0; visitor < visitors; visitor++) {
                if (comesToday(visitor)) {
                    those |= 1 << visitor;
                }
            }
            return those;
        }

        int draw() {
            z = z * 1103515245 + 12345;
            return z >>> 8;
        }
    }

    /** A row of numbers; with 0 bits it is missing. */
    private static final class Sheet {
        final int[] numbers = new int[NUMBERS];
        int bits;
        int size;

        boolean isMissing() {
            return bits == 0;
        }

        void layOut(int newBits, int n) {
            bits = newBits;
            size = newBits == 0 ? 0 : n;
            for (int i = 0; i < NUMBERS; i++) {
                numbers[i] = 0;
            }
        }

        /** Numbers bear a sign, so that -1 can be told in few bits too. */
        void put(int i, int v) {
            switch (bits) {
                case 8:
                    numbers[i] = (byte) v;
                    break;
                case 16:
                    numbers[i] = (short) v;
                    break;
                default:
                    numbers[i] = v;
                    break;
            }
        }

        boolean hasPart(int begin, int n) {
            return begin >= 0 && n >= 0 && n <= size - begin;
        }

        boolean tells(int[] heaps) {
            int end = Math.min(size, heaps.length);
            for (int i = 0; i < end; i++) {
                if (numbers[i] != ANY && numbers[i] != heaps[i]) {
                    return false;
                }
            }
            return true;
        }
    }

    private static final class Tape {
        final byte[] bytes = new byte[TAPE_BYTES];
        int length;

        void append(int number, int n) {
            for (int i = n - 1; i >= 0 && length < TAPE_BYTES; i--) {
                bytes[length] = (byte) (number >> 8 * i);
                length++;
            }
        }
    }

    /** Reads a text token by token; where a token can't stand, its begin is the fault. */
    private static final class TextReader {
        static final int END = 0;
        static final int WORD = 1;
        static final int NUMBER = 2;
        static final int SIGN = 3;
        static final int STRAY = 4;
        static final int NUMBER_MOST = 9999;

        final Tape tape = new Tape();
        int token;
        int begin;
        int end;
        int value;

        /** How many items, all carried out in the pit, or -1 less the fault, when the pit is of no more use. */
        int readText(Pit pit) {
            end = 0;
            readToken();
            for (int items = 1; items <= TAPE_BYTES; items++) {
                if (!readItem(pit)) {
                    return -1 - begin;
                }
                if (token == END) {
                    return items;
                }
                if (token != SIGN) {
                    return -1 - begin;
                }
                readToken();
            }
            return -1 - begin;
        }

        boolean readItem(Pit pit) {
            for (int kind = 0; kind < KINDS; kind++) {
                if (isWord(wordOf(kind))) {
                    return readVisitor(pit, kind);
                }
            }
            if (isWord("sand")) {
                return readSand(pit);
            }
            if (isWord("store")) {
                return readSetting(pit, STORE);
            }
            if (isWord("wind")) {
                return readSetting(pit, WIND);
            }
            return isWord("wet") && readSetting(pit, WET);
        }

        static String wordOf(int kind) {
            switch (kind) {
                case CHILD:
                    return "child";
                case LOVER:
                    return "lover";
                case BOY:
                    return "boy";
                case DIGGER:
                    return "digger";
                case TRAVELLER:
                    return "traveller";
                case BRIDE:
                    return "bride";
                default:
                    return "visitor";
            }
        }

        boolean readVisitor(Pit pit, int kind) {
            if (pit.isFull()) {
                return false;
            }
            int visitor = pit.admit(kind, TRAIT_FIRST[FROM]);
            readToken();
            return readTrait(pit, visitor, "from", FROM)
                && readTrait(pit, visitor, "wide", WIDE)
                && readTrait(pit, visitor, "high", HIGH)
                && readTrait(pit, visitor, "each", EACH);
        }

        boolean readTrait(Pit pit, int visitor, String word, int trait) {
            if (!isWord(word)) {
                return true;
            }
            readToken();
            if (!isNumber(TRAIT_LEAST[trait], TRAIT_MOST[trait])) {
                return false;
            }
            pit.traits[trait][visitor] = value;
            readToken();
            return true;
        }

        boolean readSand(Pit pit) {
            readToken();
            if (!isNumber(0, CELLS - 1)) {
                return false;
            }
            int cell = value;
            readToken();
            if (!isNumber(0, SAND_MOST)) {
                return false;
            }
            pit.heaps[cell] = value;
            readToken();
            return true;
        }

        boolean readSetting(Pit pit, int what) {
            readToken();
            if (!isNumber(0, SETTING_MOST[what])) {
                return false;
            }
            pit.settings[what] = value;
            readToken();
            return true;
        }

        boolean isNumber(int least, int most) {
            return token == NUMBER && within(value, least, most);
        }

        boolean isWord(String word) {
            if (token != WORD || word.length() != end - begin) {
                return false;
            }
            for (int i = 0; i < word.length(); i++) {
                if (word.charAt(i) != tape.bytes[begin + i]) {
                    return false;
                }
            }
            return true;
        }

        void readToken() {
            begin = end;
            while (begin < tape.length && tape.bytes[begin] == ' ') {
                begin++;
            }
            token = tokenAt(begin);
            end = Math.min(begin + 1, tape.length);
            while ((token == WORD || token == NUMBER) && end < tape.length && tokenAt(end) == token) {
                end++;
            }
            if (token == NUMBER) {
                readValue();
            }
        }

        /** What a token that begins there would be. */
        int tokenAt(int place) {
            if (place >= tape.length) {
                return END;
            }
            int sign = tape.bytes[place];
            if (sign >= 'a' && sign <= 'z') {
                return WORD;
            }
            if (sign >= '0' && sign <= '9') {
                return NUMBER;
            }
            return sign == ';' ? SIGN : STRAY;
        }

        /** A value beyond NUMBER_MOST stays there, as so many digits would not fit into an int. */
        void readValue() {
            value = 0;
            for (int place = begin; place < end; place++) {
                value = Math.min(NUMBER_MOST + 1, value * 10 + tape.bytes[place] - '0');
            }
        }
    }
}
