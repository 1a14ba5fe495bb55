import java.util.Arrays;

/** A town in which every Tuesday is had twice: first to see, then to do. */
public final class TwoTuesdays {
    private static final int LOW = -1000001;
    private static final int BEYOND = LOW;
    private static final int FULL = LOW - 1;
    private static final int KIND = LOW - 2;
    private static final int NONE = LOW - 3;
    private static final int STATE = LOW - 4;
    private static final int MISSING = LOW - 5;
    private static final int SIZE = LOW - 6;
    private static final int FINDINGS = 7;

    private static final int PLACES = 8;
    private static final int MAX_PEOPLE = 8;
    private static final int KINDS = 7;
    private static final int SPOTS = 10;
    private static final int SHEETS = 4;
    private static final int MAX_NUMBERS = 40;
    private static final int MAX_BYTES = 120;
    private static final int MAX_PRIZE = 9999;
    private static final int MAX_LOOKS = 7;
    private static final int MAX_GOODS = 99999;
    private static final int MAX_TUESDAY = 99999;
    private static final int NOBODY = -1;
    private static final int NOWHERE = -1;
    private static final int ANY = -1;
    private static final int FURTHEST = 100;

    private static final int PERSON = 0;
    private static final int GAMBLER = 1;
    private static final int LOVER = 2;
    private static final int JEALOUS = 3;
    private static final int THIEF = 4;
    private static final int CAT = 5;
    private static final int SLEEPER = 6;
    private static final int[] KIND_ABOVE = {-1, PERSON, PERSON, LOVER, JEALOUS, PERSON, GAMBLER};

    private static final int TRAIT_KIND = 0;
    private static final int TRAIT_PLAN = 1;
    private static final int TRAIT_LOOKS = 2;
    private static final int TRAIT_LOVE = 3;
    private static final int TRAIT_GOODS = 4;

    private final Town town;
    private final Town kept;
    /** Every "what if" is played here, so that no call needs a new town. */
    private final Town trial;
    private final TextReader reader;
    private final Sheet[] sheets;
    private final int[] told;
    private boolean isKept;

    public TwoTuesdays() {
        town = new Town();
        kept = new Town();
        trial = new Town();
        reader = new TextReader();
        sheets = new Sheet[SHEETS];
        for (int s = 0; s < SHEETS; s++) {
            sheets[s] = new Sheet();
        }
        told = new int[FINDINGS];
        isKept = false;
    }

    // ---- places, people

    public int prize(int place, int v) {
        if (!isPlace(place) || !isWithin(v, 0, MAX_PRIZE)) {
            return found(BEYOND);
        }
        int was = town.prizeAt[place];
        town.prizeAt[place] = v;
        return was;
    }

    public int place(int place, int what) {
        if (!isPlace(place) || !isWithin(what, 0, 2)) {
            return found(BEYOND);
        }
        if (what == 0) {
            return town.prizeAt[place];
        }
        town.settle();
        return what == 1 ? town.plannersOf(place) : town.choosersOf(place);
    }

    public int person(int kind, int plan) {
        if (!isKind(kind) || !isPlace(plan)) {
            return found(BEYOND);
        }
        int number = town.addOne(kind, plan);
        return number == NOBODY ? found(FULL) : number;
    }

    public int of(int person, int what) {
        if (!isThere(person) || !isWithin(what, 0, 7)) {
            return found(BEYOND);
        }
        if (what <= TRAIT_GOODS) {
            return town.traitOf(person, what);
        }
        town.settle();
        if (what == 5) {
            return town.choiceOf[person];
        }
        if (what == 6) {
            return town.getsNow(person);
        }
        return town.regretsNow(person) ? 1 : 0;
    }

    public int change(int person, int what, int v) {
        if (!isThere(person) || !town.mayBecome(person, what, v)) {
            return found(BEYOND);
        }
        int was = town.traitOf(person, what);
        town.setTrait(person, what, v);
        return was;
    }

    public int seen(int person, int place) {
        if (!isThere(person) || !isPlace(place)) {
            return found(BEYOND);
        }
        if (!town.canSee(person, place)) {
            return found(NONE);
        }
        town.settle();
        return town.seenBy(person, place);
    }

    public int wishes(int person, int place) {
        if (!isThere(person) || !isPlace(place)) {
            return found(BEYOND);
        }
        if (!town.canSee(person, place)) {
            return found(NONE);
        }
        town.settle();
        return town.wishAt(person, place);
    }

    // ---- Tuesdays

    public int go(int n) {
        if (!isWithin(n, 1, 60)) {
            return found(BEYOND);
        }
        if (town.tuesday > MAX_TUESDAY - n) {
            return found(STATE);
        }
        town.passTuesdays(n);
        return town.goodsOfAll();
    }

    public int now(int what) {
        if (!isWithin(what, 0, 5)) {
            return found(BEYOND);
        }
        town.settle();
        switch (what) {
            case 0:
                return town.tuesday;
            case 1:
                return town.goodsOfAll();
            case 2:
                return town.regretters();
            case 3:
                return town.visitedPlaces();
            case 4:
                return town.movers();
            default:
                return town.richest();
        }
    }

    // ---- what will be (nothing changes)

    public int ahead(int person, int n) {
        if (!isThere(person) || !isWithin(n, 0, FURTHEST)) {
            return found(BEYOND);
        }
        trial.become(town);
        trial.passTuesdays(n);
        return trial.goodsOf[person];
    }

    public int plan(int person, int n) {
        if (!isThere(person) || !isWithin(n, 0, FURTHEST)) {
            return found(BEYOND);
        }
        trial.become(town);
        trial.passTuesdays(n);
        return trial.planOf[person];
    }

    public int rests() {
        trial.become(town);
        for (int n = 0; n <= FURTHEST; n++) {
            trial.settle();
            if (trial.movers() == 0) {
                return n;
            }
            trial.passTuesdays(1);
        }
        return found(NONE);
    }

    public int round() {
        trial.become(town);
        for (int n = 1; n <= FURTHEST; n++) {
            trial.passTuesdays(1);
            if (trial.hasPlansOf(town)) {
                return n;
            }
        }
        return found(NONE);
    }

    public int meet(int a, int b) {
        if (!isThere(a) || !isThere(b) || a == b) {
            return found(BEYOND);
        }
        trial.become(town);
        for (int n = 0; n <= FURTHEST; n++) {
            trial.settle();
            if (trial.choiceOf[a] == trial.choiceOf[b]) {
                return n;
            }
            trial.passTuesdays(1);
        }
        return found(NONE);
    }

    public int crowd(int place, int n, int what) {
        if (!isPlace(place) || !isWithin(n, 1, FURTHEST) || !isWithin(what, 0, 1)) {
            return found(BEYOND);
        }
        trial.become(town);
        int fewest = MAX_PEOPLE;
        int most = 0;
        for (int i = 0; i < n; i++) {
            trial.passTuesdays(1);
            fewest = Math.min(fewest, trial.chosenAt[place]);
            most = Math.max(most, trial.chosenAt[place]);
        }
        return what == 0 ? fewest : most;
    }

    // ---- which plan, as what

    public int planFor(int person, int n) {
        return richestWith(person, n, TRAIT_PLAN);
    }

    public int kindFor(int person, int n) {
        return richestWith(person, n, TRAIT_KIND);
    }

    public int looksFor(int person, int n) {
        return richestWith(person, n, TRAIT_LOOKS);
    }

    public int loveFor(int person, int n) {
        return richestWith(person, n, TRAIT_LOVE);
    }

    public int prizeFor(int place, int k) {
        if (!isPlace(place) || !isWithin(k, 0, MAX_PEOPLE)) {
            return found(BEYOND);
        }
        trial.become(town);
        for (int v = 0; v <= 200; v++) {
            trial.prizeAt[place] = v;
            trial.settle();
            if (trial.chosenAt[place] >= k) {
                return v;
            }
        }
        return found(NONE);
    }

    // ---- told otherwise

    public int tell(int place, int k) {
        if (!isPlace(place) || !isWithin(k, 0, MAX_PEOPLE)) {
            return found(BEYOND);
        }
        int best = -1;
        for (int set = 0; set < 1 << town.people; set++) {
            boolean isFewer = best < 0 || Integer.bitCount(set) < Integer.bitCount(best);
            if (isFewer && comersIfTold(set, place) >= k) {
                best = set;
            }
        }
        return best < 0 ? found(NONE) : best;
    }

    public int away() {
        if (town.people == 0) {
            return found(NONE);
        }
        int best = 0;
        int most = -1;
        for (int person = 0; person < town.people; person++) {
            trial.become(town);
            trial.planOf[person] = NOWHERE;
            trial.passTuesdays(1);
            int goods = trial.goodsOfAll() - trial.goodsOf[person];
            if (goods > most) {
                best = person;
                most = goods;
            }
        }
        return best;
    }

    public int swapFor(int n) {
        if (!isWithin(n, 0, 40)) {
            return found(BEYOND);
        }
        if (town.people < 2) {
            return found(NONE);
        }
        int best = 0;
        int most = -1;
        for (int a = 0; a < town.people; a++) {
            for (int b = a + 1; b < town.people; b++) {
                int goods = goodsIfSwapped(a, b, n);
                if (goods > most) {
                    best = 8 * a + b;
                    most = goods;
                }
            }
        }
        return best;
    }

    // ---- what was told

    public int fits(int s, int person) {
        return fittingTraits(s, person, TRAIT_PLAN);
    }

    public int kinds(int s, int person) {
        return fittingTraits(s, person, TRAIT_KIND);
    }

    // ---- weather

    public int weather(int n) {
        if (!isWithin(n, 1, 20)) {
            return found(BEYOND);
        }
        if (town.tuesday > MAX_TUESDAY - n) {
            return found(STATE);
        }
        for (int i = 0; i < n; i++) {
            int place = town.nextDraw() % PLACES;
            int prize = town.nextDraw() % 100;
            if (isPlace(place)) {
                town.prizeAt[place] = prize;
            }
            town.passTuesdays(1);
        }
        return town.goodsOfAll();
    }

    public long odds(int n, int what) {
        if (!isWithin(n, 0, 20) || !isWithin(what, 0, 1)) {
            return found(BEYOND);
        }
        town.settle();
        int above = PLACES - Integer.bitCount(town.visitedPlaces());
        int below = PLACES;
        // A power of a fraction in lowest terms is in lowest terms, and 8 can be halved three times.
        for (int i = 0; i < 3 && above % 2 == 0; i++) {
            above /= 2;
            below /= 2;
        }
        return powerOf(what == 0 ? above : below, n);
    }

    public int seed(int v) {
        int was = town.z;
        town.z = v;
        return was;
    }

    // ---- texts

    public int feed(int bytes, int n) {
        if (!isWithin(n, 1, 4)) {
            return found(BEYOND);
        }
        if (reader.tape.length + n > MAX_BYTES) {
            return found(FULL);
        }
        for (int i = n - 1; i >= 0; i--) {
            reader.tape.append(bytes >>> (8 * i) & 255);
        }
        return reader.tape.length;
    }

    public int wipe() {
        int had = reader.tape.length;
        reader.tape.length = 0;
        return had;
    }

    public int text() {
        reader.draft.become(town);
        boolean isText = reader.readItems();
        reader.tape.length = 0;
        if (!isText) {
            return -1 - reader.fault;
        }
        town.become(reader.draft);
        return reader.items;
    }

    // ---- spots, sheets

    public int hold(int spot, int person) {
        if (!isSpot(spot) || person != NOBODY && !isThere(person)) {
            return found(BEYOND);
        }
        town.heldAt[spot] = person;
        return 1;
    }

    public int as(int spot, int kind) {
        if (!isSpot(spot) || !isKind(kind)) {
            return found(BEYOND);
        }
        int person = town.heldAt[spot];
        if (!isThere(person)) {
            return found(MISSING);
        }
        if (!isUnder(town.kindOf[person], kind)) {
            return found(KIND);
        }
        return person;
    }

    public int sheet(int s, int bits, int n) {
        if (!isSheet(s) || bits != 0 && bits != 8 && bits != 16 && bits != 32) {
            return found(BEYOND);
        }
        if (n < 0) {
            return found(SIZE);
        }
        if (n > MAX_NUMBERS) {
            return found(BEYOND);
        }
        sheets[s].begin(bits, n);
        return sheets[s].size;
    }

    public int write(int s, int i, int v) {
        if (!isSheet(s)) {
            return found(BEYOND);
        }
        if (sheets[s].isMissing()) {
            return found(MISSING);
        }
        if (!sheets[s].hasNumbers(i, 1)) {
            return found(BEYOND);
        }
        sheets[s].put(i, v);
        return 1;
    }

    public int copy(int s, int from, int t, int to, int n) {
        if (!isSheet(s) || !isSheet(t)) {
            return found(BEYOND);
        }
        Sheet source = sheets[s];
        Sheet target = sheets[t];
        if (source.isMissing() || target.isMissing()) {
            return found(MISSING);
        }
        if (source.bits != target.bits) {
            return found(KIND);
        }
        if (!source.hasNumbers(from, n) || !target.hasNumbers(to, n)) {
            return found(BEYOND);
        }
        System.arraycopy(source.numbers, from, target.numbers, to, n);
        return n;
    }

    public int load(int s) {
        if (!isSheet(s)) {
            return found(BEYOND);
        }
        Sheet source = sheets[s];
        if (source.isMissing()) {
            return found(MISSING);
        }
        int came = 0;
        while (came < source.size && isPlace(came) && isWithin(source.numbers[came], 0, MAX_PRIZE)) {
            town.prizeAt[came] = source.numbers[came];
            came++;
        }
        return came;
    }

    public int judge(int s) {
        if (!isSheet(s)) {
            return found(BEYOND);
        }
        Sheet source = sheets[s];
        if (source.isMissing()) {
            return found(MISSING);
        }
        town.settle();
        for (int i = 0; i < source.size; i++) {
            if (!isThere(i) || town.choiceOf[i] != source.numbers[i]) {
                return 1 + i;
            }
        }
        return 0;
    }

    // ---- images

    public int image() {
        kept.become(town);
        isKept = true;
        return 1;
    }

    public int undo() {
        if (!isKept) {
            return found(NONE);
        }
        town.become(kept);
        return town.tuesday;
    }

    public int tear() {
        int was = isKept ? 1 : 0;
        isKept = false;
        return was;
    }

    public int count(int what) {
        town.settle();
        switch (what) {
            case 0:
                return town.tuesday;
            case 1:
                return town.people;
            case 2:
                return Integer.bitCount(town.regretters());
            case 3:
                return Integer.bitCount(town.visitedPlaces());
            case 4:
                return town.goodsOfAll();
            case 5:
                return reader.tape.length;
            case 6:
                return town.z;
            case 7:
                return town.fullSpots();
            default:
                return found(BEYOND);
        }
    }

    public int status(int which) {
        if (!isWithin(which, -1, FINDINGS - 1)) {
            return found(BEYOND);
        }
        if (which >= 0) {
            return told[which];
        }
        int all = 0;
        for (int i = 0; i < FINDINGS; i++) {
            all += told[i];
        }
        return all;
    }

    // ---- what the calls share

    private int found(int finding) {
        int which = LOW - finding;
        if (isWithin(which, 0, FINDINGS - 1)) {
            told[which]++;
        }
        return finding;
    }

    private boolean isThere(int person) {
        return isWithin(person, 0, town.people - 1);
    }

    /** Which value of a trait lets one have most goods behind n Tuesdays; the least of several. */
    private int richestWith(int person, int n, int trait) {
        if (!isThere(person) || !isWithin(n, 0, 60)) {
            return found(BEYOND);
        }
        int best = NOBODY;
        int most = -1;
        for (int v = -1; v < 8; v++) {
            if (!town.mayBecome(person, trait, v)) {
                continue;
            }
            trial.become(town);
            trial.setTrait(person, trait, v);
            trial.passTuesdays(n);
            if (trial.goodsOf[person] > most) {
                best = v;
                most = trial.goodsOf[person];
            }
        }
        return best;
    }

    private int comersIfTold(int set, int place) {
        trial.become(town);
        for (int person = 0; person < trial.people; person++) {
            if ((set >> person & 1) == 1) {
                trial.planOf[person] = place;
            }
        }
        trial.settle();
        return trial.chosenAt[place];
    }

    private int goodsIfSwapped(int a, int b, int n) {
        trial.become(town);
        trial.planOf[a] = town.planOf[b];
        trial.planOf[b] = town.planOf[a];
        trial.passTuesdays(n);
        return trial.goodsOfAll();
    }

    private int fittingTraits(int s, int person, int trait) {
        if (!isSheet(s)) {
            return found(BEYOND);
        }
        if (sheets[s].isMissing()) {
            return found(MISSING);
        }
        if (!isThere(person)) {
            return found(BEYOND);
        }
        int set = 0;
        for (int v = 0; v < 8; v++) {
            if (town.mayBecome(person, trait, v) && fitsWith(sheets[s], person, trait, v)) {
                set |= 1 << v;
            }
        }
        return set;
    }

    private boolean fitsWith(Sheet source, int person, int trait, int v) {
        trial.become(town);
        trial.setTrait(person, trait, v);
        for (int i = 0; i < source.size; i++) {
            int wanted = source.numbers[i];
            if (wanted != ANY && wanted != trial.goodsOf[person]) {
                return false;
            }
            trial.passTuesdays(1);
        }
        return true;
    }

    private static boolean isWithin(int v, int least, int most) {
        return v >= least && v <= most;
    }

    private static boolean isPlace(int place) {
        return place >= 0 && place < PLACES;
    }

    private static boolean isKind(int kind) {
        return isWithin(kind, 0, KINDS - 1);
    }

    private static boolean isSpot(int spot) {
        return isWithin(spot, 0, SPOTS - 1);
    }

    private static boolean isSheet(int s) {
        return isWithin(s, 0, SHEETS - 1);
    }

    /** Whether a kind is another one or stands under it. */
    private static boolean isUnder(int kind, int top) {
        int at = kind;
        for (int level = 0; level < KINDS && isKind(at); level++) {
            if (at == top) {
                return true;
            }
            at = KIND_ABOVE[at];
        }
        return false;
    }

    private static int shareOf(int prize, int heads) {
        return heads > 0 ? prize / heads : 0;
    }

    private static long powerOf(int base, int n) {
        long power = 1;
        for (int i = 0; i < n; i++) {
            power *= base;
        }
        return power;
    }

    /** All that an image keeps, and what follows from it on this Tuesday. */
    private static final class Town {
        final int[] prizeAt = new int[PLACES];
        final int[] kindOf = new int[MAX_PEOPLE];
        final int[] planOf = new int[MAX_PEOPLE];
        final int[] looksOf = new int[MAX_PEOPLE];
        final int[] loveOf = new int[MAX_PEOPLE];
        final int[] goodsOf = new int[MAX_PEOPLE];
        final int[] heldAt = new int[SPOTS];
        int people;
        int tuesday;
        int z;

        /** These three follow from the others, and are true only behind settle(). */
        final int[] plannedAt = new int[PLACES];
        final int[] choiceOf = new int[MAX_PEOPLE];
        final int[] chosenAt = new int[PLACES];

        Town() {
            Arrays.fill(prizeAt, 10);
            Arrays.fill(heldAt, NOBODY);
            people = 0;
            tuesday = 0;
            z = 1;
        }

        void become(Town other) {
            System.arraycopy(other.prizeAt, 0, prizeAt, 0, PLACES);
            System.arraycopy(other.kindOf, 0, kindOf, 0, MAX_PEOPLE);
            System.arraycopy(other.planOf, 0, planOf, 0, MAX_PEOPLE);
            System.arraycopy(other.looksOf, 0, looksOf, 0, MAX_PEOPLE);
            System.arraycopy(other.loveOf, 0, loveOf, 0, MAX_PEOPLE);
            System.arraycopy(other.goodsOf, 0, goodsOf, 0, MAX_PEOPLE);
            System.arraycopy(other.heldAt, 0, heldAt, 0, SPOTS);
            people = other.people;
            tuesday = other.tuesday;
            z = other.z;
        }

        /** The number of the new one, or NOBODY if there is no room. */
        int addOne(int kind, int plan) {
            int person = people;
            if (person >= MAX_PEOPLE) {
                return NOBODY;
            }
            kindOf[person] = kind;
            planOf[person] = plan;
            looksOf[person] = 1;
            loveOf[person] = NOBODY;
            goodsOf[person] = 0;
            people = person + 1;
            return person;
        }

        boolean mayBecome(int person, int trait, int v) {
            switch (trait) {
                case TRAIT_KIND:
                    return isKind(v);
                case TRAIT_PLAN:
                    return isPlace(v);
                case TRAIT_LOOKS:
                    return isWithin(v, 0, MAX_LOOKS);
                case TRAIT_LOVE:
                    return isWithin(v, NOBODY, people - 1) && v != person;
                case TRAIT_GOODS:
                    return isWithin(v, 0, MAX_GOODS);
                default:
                    return false;
            }
        }

        int traitOf(int person, int trait) {
            switch (trait) {
                case TRAIT_KIND:
                    return kindOf[person];
                case TRAIT_PLAN:
                    return planOf[person];
                case TRAIT_LOOKS:
                    return looksOf[person];
                case TRAIT_LOVE:
                    return loveOf[person];
                default:
                    return goodsOf[person];
            }
        }

        void setTrait(int person, int trait, int v) {
            switch (trait) {
                case TRAIT_KIND:
                    kindOf[person] = v;
                    break;
                case TRAIT_PLAN:
                    planOf[person] = v;
                    break;
                case TRAIT_LOOKS:
                    looksOf[person] = v;
                    break;
                case TRAIT_LOVE:
                    loveOf[person] = v;
                    break;
                default:
                    goodsOf[person] = v;
                    break;
            }
        }

        /** Finds how many plan to be where, what each chooses, and how many come where. */
        void settle() {
            Arrays.fill(plannedAt, 0);
            Arrays.fill(chosenAt, 0);
            for (int person = 0; person < people; person++) {
                if (isPlace(planOf[person])) {
                    plannedAt[planOf[person]]++;
                }
            }
            for (int person = 0; person < people; person++) {
                int choice = bestPlaceFor(person);
                choiceOf[person] = choice;
                if (isPlace(choice)) {
                    chosenAt[choice]++;
                }
            }
        }

        private int bestPlaceFor(int person) {
            int plan = planOf[person];
            if (!isPlace(plan)) {
                return NOWHERE;
            }
            int best = plan;
            int most = wishAt(person, plan);
            int last = Math.min(PLACES - 1, plan + looksOf[person]);
            for (int place = Math.max(0, plan - looksOf[person]); place <= last; place++) {
                int wish = wishAt(person, place);
                if (wish > most) {
                    best = place;
                    most = wish;
                }
            }
            return best;
        }

        boolean canSee(int person, int place) {
            return Math.abs(planOf[person] - place) <= looksOf[person];
        }

        int seenBy(int person, int place) {
            return plannedAt[place] - (planOf[person] == place ? 1 : 0);
        }

        /** It calls nothing, for it stands at the bottom of the dearest questions. */
        int wishAt(int person, int place) {
            boolean isPlan = planOf[person] == place;
            int others = plannedAt[place] - (isPlan ? 1 : 0);
            int share = others >= 0 ? prizeAt[place] / (others + 1) : 0;
            int whole = others == 0 ? prizeAt[place] : 0;
            int love = loveOf[person];
            int forLove = love >= 0 && love < people && planOf[love] == place ? 100 : 0;
            switch (kindOf[person]) {
                case GAMBLER:
                    return whole;
                case LOVER:
                    return share + forLove;
                case JEALOUS:
                    return share + forLove - 5 * others;
                case THIEF:
                    return share + forLove - 5 * others + 7 * others;
                case CAT:
                    return isPlan ? 1 : 0;
                case SLEEPER:
                    return isPlan ? whole : 0;
                default:
                    return share;
            }
        }

        void passTuesdays(int n) {
            for (int i = 0; i < n; i++) {
                settle();
                for (int person = 0; person < people; person++) {
                    goodsOf[person] = Math.min(MAX_GOODS, goodsOf[person] + getsNow(person));
                }
                for (int person = 0; person < people; person++) {
                    if (kindOf[person] != CAT && kindOf[person] != SLEEPER) {
                        planOf[person] = choiceOf[person];
                    }
                }
                tuesday = Math.min(MAX_TUESDAY, tuesday + 1);
            }
        }

        int getsNow(int person) {
            int choice = choiceOf[person];
            return isPlace(choice) ? shareOf(prizeAt[choice], chosenAt[choice]) : 0;
        }

        boolean regretsNow(int person) {
            int gets = getsNow(person);
            for (int place = 0; place < PLACES; place++) {
                if (place != choiceOf[person] && shareOf(prizeAt[place], chosenAt[place] + 1) > gets) {
                    return true;
                }
            }
            return false;
        }

        int regretters() {
            int set = 0;
            for (int person = 0; person < people; person++) {
                set |= regretsNow(person) ? 1 << person : 0;
            }
            return set;
        }

        int movers() {
            int set = 0;
            for (int person = 0; person < people; person++) {
                set |= choiceOf[person] != planOf[person] ? 1 << person : 0;
            }
            return set;
        }

        int plannersOf(int place) {
            int set = 0;
            for (int person = 0; person < people; person++) {
                set |= planOf[person] == place ? 1 << person : 0;
            }
            return set;
        }

        int choosersOf(int place) {
            int set = 0;
            for (int person = 0; person < people; person++) {
                set |= choiceOf[person] == place ? 1 << person : 0;
            }
            return set;
        }

        int visitedPlaces() {
            int set = 0;
            for (int place = 0; place < PLACES; place++) {
                set |= chosenAt[place] > 0 ? 1 << place : 0;
            }
            return set;
        }

        boolean hasPlansOf(Town other) {
            for (int person = 0; person < people; person++) {
                if (planOf[person] != other.planOf[person]) {
                    return false;
                }
            }
            return true;
        }

        int goodsOfAll() {
            int goods = 0;
            for (int person = 0; person < people; person++) {
                goods += goodsOf[person];
            }
            return goods;
        }

        int richest() {
            int best = NOBODY;
            for (int person = 0; person < people; person++) {
                if (best == NOBODY || goodsOf[person] > goodsOf[best]) {
                    best = person;
                }
            }
            return best;
        }

        int fullSpots() {
            int full = 0;
            for (int spot = 0; spot < SPOTS; spot++) {
                full += heldAt[spot] != NOBODY ? 1 : 0;
            }
            return full;
        }

        int nextDraw() {
            z = z * 1103515245 + 12345;
            return z >>> 8;
        }
    }

    /** A row of numbers of one width; 0 bits: it is missing. */
    private static final class Sheet {
        final int[] numbers = new int[MAX_NUMBERS];
        int bits;
        int size;

        void begin(int width, int n) {
            bits = width;
            size = width == 0 ? 0 : n;
            Arrays.fill(numbers, 0);
        }

        boolean isMissing() {
            return bits == 0;
        }

        boolean hasNumbers(int from, int n) {
            return from >= 0 && n >= 0 && n <= size && from <= size - n;
        }

        void put(int i, int v) {
            if (bits == 8) {
                numbers[i] = (byte) v;
            } else if (bits == 16) {
                numbers[i] = (short) v;
            } else {
                numbers[i] = v;
            }
        }
    }

    /** The bytes that were fed, and the token at which a reader stands. */
    private static final class Tape {
        static final int END = 0;
        static final int WORD = 1;
        static final int NUMBER = 2;
        static final int SIGN = 3;
        static final int OTHER = 4;
        static final int MAX_NUMBER = 9999;

        final int[] bytes = new int[MAX_BYTES];
        int length;
        int token;
        int begin;
        int value;
        private int end;

        void append(int b) {
            if (length < MAX_BYTES) {
                bytes[length] = b;
                length++;
            }
        }

        void rewind() {
            end = 0;
            step();
        }

        /** Goes on to the next token; at the end of the tape it stays there. */
        void step() {
            begin = end;
            while (begin < length && bytes[begin] == ' ') {
                begin++;
            }
            end = begin;
            if (begin >= length) {
                token = END;
                return;
            }
            int first = bytes[begin];
            if (first >= 'a' && first <= 'z') {
                token = WORD;
                skipWord();
            } else if (first >= '0' && first <= '9') {
                token = NUMBER;
                skipNumber();
            } else {
                token = first == ';' ? SIGN : OTHER;
                end = begin + 1;
            }
        }

        private void skipWord() {
            while (end < length && bytes[end] >= 'a' && bytes[end] <= 'z') {
                end++;
            }
        }

        private void skipNumber() {
            value = 0;
            while (end < length && bytes[end] >= '0' && bytes[end] <= '9') {
                // A number that is too great already stays so, however many digits follow.
                if (value <= MAX_NUMBER) {
                    value = value * 10 + bytes[end] - '0';
                }
                end++;
            }
        }

        boolean isWord(String word) {
            if (token != WORD || end - begin != word.length()) {
                return false;
            }
            for (int i = 0; i < word.length(); i++) {
                if (bytes[begin + i] != word.charAt(i)) {
                    return false;
                }
            }
            return true;
        }
    }

    /** Reads its tape as a text, item by item, into a draft of the town: a fault leaves the town alone. */
    private static final class TextReader {
        final Tape tape = new Tape();
        final Town draft = new Town();
        int items;
        int fault;

        /** Whether it is a text; if not, fault tells where. */
        boolean readItems() {
            items = 0;
            tape.rewind();
            // Each item takes a byte at least, so the tape's length bounds them.
            while (items <= MAX_BYTES) {
                if (!readItem()) {
                    return failHere();
                }
                items++;
                if (tape.token == Tape.END) {
                    return true;
                }
                if (tape.token != Tape.SIGN) {
                    return failHere();
                }
                tape.step();
            }
            return failHere();
        }

        private boolean failHere() {
            fault = tape.begin;
            return false;
        }

        private boolean readItem() {
            if (tape.isWord("prize")) {
                tape.step();
                return readPrize();
            }
            int kind = kindHere();
            int person = isKind(kind) ? draft.addOne(kind, 0) : NOBODY;
            if (person == NOBODY) {
                return false;
            }
            tape.step();
            return readTraits(person);
        }

        private int kindHere() {
            for (int kind = 0; kind < KINDS; kind++) {
                if (tape.isWord(nameOf(kind))) {
                    return kind;
                }
            }
            return -1;
        }

        private boolean readPrize() {
            if (!isNumberHere(PLACES - 1)) {
                return false;
            }
            int place = tape.value;
            tape.step();
            if (!isNumberHere(MAX_PRIZE)) {
                return false;
            }
            draft.prizeAt[place] = tape.value;
            tape.step();
            return true;
        }

        private boolean readTraits(int person) {
            return readTrait("at", person, TRAIT_PLAN, PLACES - 1)
                && readTrait("looks", person, TRAIT_LOOKS, MAX_LOOKS)
                // Those who were there already have lesser numbers.
                && readTrait("loves", person, TRAIT_LOVE, person - 1);
        }

        /** A trait may be left out: then nothing is read. */
        private boolean readTrait(String word, int person, int trait, int most) {
            if (!tape.isWord(word)) {
                return true;
            }
            tape.step();
            if (!isNumberHere(most)) {
                return false;
            }
            draft.setTrait(person, trait, tape.value);
            tape.step();
            return true;
        }

        private boolean isNumberHere(int most) {
            return tape.token == Tape.NUMBER && tape.value <= most;
        }

        private static String nameOf(int kind) {
            switch (kind) {
                case PERSON:
                    return "person";
                case GAMBLER:
                    return "gambler";
                case LOVER:
                    return "lover";
                case JEALOUS:
                    return "jealous";
                case THIEF:
                    return "thief";
                case CAT:
                    return "cat";
                default:
                    return "sleeper";
            }
        }
    }
}
