import java.util.ArrayList;
import java.util.Arrays;
import java.util.List;
import java.util.function.Supplier;

/**
 * Each sentence of the document by which a call is refused: the finding that it answers, in which
 * order findings are told, that status() counts it, and that nothing else changes. What a call has
 * changed is looked for by two towns that had the same calls but for that one. STATE stands in
 * PromiseTests: no 512 calls reach it.
 */
public final class RefusedTests {
    private static final int BEYOND = -1000001;
    private static final int FULL = -1000002;
    private static final int KIND = -1000003;
    private static final int NONE = -1000004;
    private static final int MISSING = -1000006;
    private static final int SIZE = -1000007;

    private static final int MIN = Integer.MIN_VALUE;
    private static final int MAX = Integer.MAX_VALUE;

    private static final int PERSON = 0;
    private static final int GAMBLER = 1;
    private static final int CAT = 5;
    private static final int[] PEOPLE = {0, 6};
    private static final int[] PLACES = {0, 7};
    private static final int[] SHEETS = {0, 3};

    private static int checks = 0;
    private static int wrong = 0;

    private interface Call {
        long on(TwoTuesdays x);
    }

    private interface Act {
        long on(TwoTuesdays x, int[] a);
    }

    public static void main(String[] args) {
        lookersSeeChanges();
        rangesOfPeopleAndPlaces();
        rangesOfChange();
        rangesOfWhatWillBe();
        rangesOfTextsSpotsAndSheets();
        numbersOfCopies();
        full();
        kinds();
        noneSeen();
        noneInTime();
        noneOfThoseThere();
        missing();
        sizes();
        order();
        findingsInLongs();
        nothingChanges();
        faultsChangeNothing();
        if (wrong != 0) {
            System.out.println(wrong + " of " + checks + " checks are not as due");
            System.exit(1);
        }
        System.out.println("all " + checks + " checks are as due");
    }

    private static void due(String sentence, long got, long want) {
        checks++;
        if (got != want) {
            wrong++;
            System.out.println(sentence + ": answered " + got + ", due is " + want);
        }
    }

    // ---- towns

    /** Seven people, one of each kind; sheet 3 is missing; on the tape stands a text; an image is kept. */
    private static TwoTuesdays busy() {
        TwoTuesdays x = new TwoTuesdays();
        prizes(x, 40, 10, 20, 33, 5, 70, 90, 9);
        int[] plans = {2, 2, 3, 5, 4, 6, 1};
        for (int kind = 0; kind < plans.length; kind++) {
            x.person(kind, plans[kind]);
        }
        x.change(0, 2, 3);
        x.change(3, 2, 7);
        x.change(2, 3, 0);
        x.change(3, 3, 2);
        x.change(4, 3, 1);
        x.go(3);
        x.seed(12345);
        x.hold(0, 0);
        x.hold(3, 5);
        x.hold(9, 6);
        numbers(x, 0, 8, 1, 2, 3, 4, 5);
        numbers(x, 1, 16, 60, 50, 40, 9999, 20, 10);
        numbers(x, 2, 32, 7, 6, 5);
        x.image();
        x.prize(4, 44);
        x.change(1, 4, 300);
        x.hold(1, 1);
        x.seed(777);
        x.go(1);
        type(x, "cat at 3;prize 2 9");
        return x;
    }

    private static TwoTuesdays fullTown() {
        TwoTuesdays x = busy();
        x.person(CAT, 7);
        return x;
    }

    private static TwoTuesdays townOf(int kind, int... plans) {
        TwoTuesdays x = new TwoTuesdays();
        for (int plan : plans) {
            x.person(kind, plan);
        }
        return x;
    }

    private static TwoTuesdays prizes(TwoTuesdays x, int... prizes) {
        for (int place = 0; place < prizes.length; place++) {
            x.prize(place, prizes[place]);
        }
        return x;
    }

    private static void numbers(TwoTuesdays x, int s, int bits, int... numbers) {
        x.sheet(s, bits, numbers.length);
        for (int i = 0; i < numbers.length; i++) {
            x.write(s, i, numbers[i]);
        }
    }

    private static void type(TwoTuesdays x, String text) {
        for (int i = 0; i < text.length(); i++) {
            x.feed(text.charAt(i), 1);
        }
    }

    private static TwoTuesdays busyWithTape(int bytes) {
        TwoTuesdays x = busy();
        x.wipe();
        for (int i = 0; i < bytes / 4; i++) {
            x.feed(0x63617420, 4);
        }
        for (int i = 0; i < bytes % 4; i++) {
            x.feed(';', 1);
        }
        return x;
    }

    // ---- looking at all that there is

    private static final int PARTS = 6;

    /** All answers by which one part of a town's state shows; each part stays below 512 calls. */
    private static List<Long> look(int part, TwoTuesdays x) {
        List<Long> seen = new ArrayList<>();
        switch (part) {
            case 0:
                lookAround(x, seen);
                break;
            case 1:
                seen.add((long) x.undo());
                lookAround(x, seen);
                break;
            case 2:
                seen.add((long) x.text());
                lookAround(x, seen);
                break;
            case 3:
                lookAtSheets(x, seen);
                break;
            case 4:
                seen.add((long) x.wipe());
                seen.add((long) x.tear());
                break;
            default:
                seen.add((long) x.weather(3));
                lookAround(x, seen);
                break;
        }
        return seen;
    }

    private static void lookAround(TwoTuesdays x, List<Long> seen) {
        for (int i = 0; i < 8; i++) {
            for (int what = 0; what < 8; what++) {
                seen.add((long) x.of(i, what));
                seen.add((long) x.seen(i, what));
                seen.add((long) x.wishes(i, what));
            }
            for (int what = 0; what < 3; what++) {
                seen.add((long) x.place(i, what));
            }
            seen.add((long) x.count(i));
            seen.add((long) x.now(i));
            seen.add((long) x.ahead(i, 7));
        }
        for (int spot = 0; spot < 10; spot++) {
            seen.add((long) x.as(spot, 0));
        }
    }

    private static void lookAtSheets(TwoTuesdays x, List<Long> seen) {
        for (int s = 0; s < 4; s++) {
            for (int t = 0; t < 4; t++) {
                seen.add((long) x.copy(s, 0, t, 0, 0));
            }
            for (int n = 1; n < 10; n++) {
                seen.add((long) x.copy(s, 0, s, 0, n));
            }
        }
        for (int s = 0; s < 4; s++) {
            for (int i = 0; i < 10; i++) {
                seen.add((long) x.copy(s, i, s, 0, 1));
                seen.add((long) x.load(s));
                seen.add((long) x.place(0, 0));
            }
        }
    }

    private static boolean shows(Supplier<TwoTuesdays> town, Call call) {
        for (int part = 0; part < PARTS; part++) {
            TwoTuesdays with = town.get();
            call.on(with);
            if (!look(part, with).equals(look(part, town.get()))) {
                return true;
            }
        }
        return false;
    }

    /** If a change of any kind did not show, no test here could tell that a refused call made it. */
    private static void lookersSeeChanges() {
        Call[] changes = {x -> x.prize(0, 41), x -> x.prize(7, 8), x -> x.person(CAT, 0), x -> x.change(6, 0, 5),
            x -> x.change(5, 1, 7), x -> x.change(5, 2, 3), x -> x.change(6, 3, 5), x -> x.change(0, 4, 1),
            x -> x.go(1), x -> x.weather(1), x -> x.seed(776), x -> x.feed(';', 1), x -> x.wipe(), x -> x.text(),
            x -> x.hold(0, 1), x -> x.hold(9, -1), x -> x.sheet(0, 8, 4), x -> x.sheet(0, 16, 5), x -> x.sheet(0, 0, 5),
            x -> x.sheet(3, 8, 0), x -> x.write(0, 4, 6), x -> x.write(2, 2, 4), x -> x.copy(0, 0, 0, 1, 1),
            x -> x.load(0), x -> x.image(), x -> x.undo(), x -> x.tear()};
        for (int i = 0; i < changes.length; i++) {
            due("a change shows, " + i, shows(RefusedTests::busy, changes[i]) ? 1 : 0, 1);
        }
    }

    private static int[] statuses(TwoTuesdays x) {
        int[] statuses = new int[8];
        for (int which = -1; which < 7; which++) {
            statuses[which + 1] = x.status(which);
        }
        return statuses;
    }

    private static void refused(String sentence, int finding, Supplier<TwoTuesdays> town, Call call) {
        TwoTuesdays x = town.get();
        int[] statuses = statuses(x);
        due(sentence, call.on(x), finding);
        statuses[0]++;
        statuses[1 + BEYOND - finding]++;
        due(sentence + ": P44 status() counts it once", Arrays.equals(statuses(x), statuses) ? 1 : 0, 1);
        due(sentence + ": nothing changes but status()", shows(town, call) ? 1 : 0, 0);
    }

    private static void refused(String sentence, int finding, Call call) {
        refused(sentence, finding, RefusedTests::busy, call);
    }

    /** Each argument in turn just outside what it may be, and as far outside as can be; then just inside. */
    private static void range(String name, Act act, int[][] ranges, int... usual) {
        due(name + Arrays.toString(usual) + " is answered", act.on(busy(), usual) > -1000000 ? 1 : 0, 1);
        for (int i = 0; i < usual.length; i++) {
            if (ranges[i] == null) {
                continue;
            }
            int least = ranges[i][0];
            int most = ranges[i][1];
            for (int v : new int[] {least - 1, most + 1, MIN, MAX}) {
                int[] a = with(usual, i, v);
                refused(name + Arrays.toString(a), BEYOND, x -> act.on(x, a));
            }
            for (int v : new int[] {least, most}) {
                int[] a = with(usual, i, v);
                due(name + Arrays.toString(a) + " is not BEYOND", act.on(busy(), a) == BEYOND ? 1 : 0, 0);
            }
        }
    }

    private static int[] with(int[] usual, int i, int v) {
        int[] a = usual.clone();
        a[i] = v;
        return a;
    }

    private static int[][] of(int[]... ranges) {
        return ranges;
    }

    private static int[] to(int least, int most) {
        return new int[] {least, most};
    }

    // ---- BEYOND

    private static void rangesOfPeopleAndPlaces() {
        range("P2 prize", (x, a) -> x.prize(a[0], a[1]), of(PLACES, to(0, 9999)), 3, 5);
        range("P3 place", (x, a) -> x.place(a[0], a[1]), of(PLACES, to(0, 2)), 3, 1);
        range("P4 person", (x, a) -> x.person(a[0], a[1]), of(to(0, 6), PLACES), 1, 3);
        range("P5 of", (x, a) -> x.of(a[0], a[1]), of(PEOPLE, to(0, 7)), 2, 1);
        range("P7 seen", (x, a) -> x.seen(a[0], a[1]), of(PEOPLE, PLACES), 3, 5);
        range("P8 wishes", (x, a) -> x.wishes(a[0], a[1]), of(PEOPLE, PLACES), 3, 5);
        range("P9 go", (x, a) -> x.go(a[0]), of(to(1, 60)), 2);
        range("P10 now", (x, a) -> x.now(a[0]), of(to(0, 5)), 1);
        refused("P5 of: nobody is there", BEYOND, TwoTuesdays::new, x -> x.of(0, 0));
        refused("P6 change: nobody is there", BEYOND, TwoTuesdays::new, x -> x.change(0, 1, 1));
        refused("P7 seen: nobody is there", BEYOND, TwoTuesdays::new, x -> x.seen(0, 0));
        refused("P8 wishes: nobody is there", BEYOND, TwoTuesdays::new, x -> x.wishes(0, 0));
        due("P5 of the eighth, who is there now", fullTown().of(7, 1), 7);
        refused("P5 of a ninth", BEYOND, RefusedTests::fullTown, x -> x.of(8, 1));
        refused("P6 change of a ninth", BEYOND, RefusedTests::fullTown, x -> x.change(8, 1, 1));
    }

    private static void rangesOfChange() {
        Act change = (x, a) -> x.change(a[0], a[1], a[2]);
        range("P6 change, KIND", change, of(PEOPLE, to(0, 4), to(0, 6)), 1, 0, 3);
        range("P6 change, PLAN", change, of(PEOPLE, null, PLACES), 1, 1, 3);
        range("P6 change, LOOKS", change, of(PEOPLE, null, to(0, 7)), 1, 2, 3);
        range("P6 change, LOVE", change, of(PEOPLE, null, to(-1, 6)), 3, 3, 5);
        range("P6 change, GOODS", change, of(PEOPLE, null, to(0, 99999)), 1, 4, 3);
        for (int i = 0; i < 7; i++) {
            int one = i;
            refused("P6 change: LOVE is not itself, " + i, BEYOND, x -> x.change(one, 3, one));
        }
        for (int what = 5; what < 8; what++) {
            int derived = what;
            refused("P6 change: no what " + what, BEYOND, x -> x.change(0, derived, 0));
        }
        refused("P6 change: LOVE of one who is not there yet", BEYOND, () -> townOf(CAT, 1), x -> x.change(0, 3, 1));
    }

    private static void rangesOfWhatWillBe() {
        range("P11 ahead", (x, a) -> x.ahead(a[0], a[1]), of(PEOPLE, to(0, 100)), 1, 5);
        range("P12 plan", (x, a) -> x.plan(a[0], a[1]), of(PEOPLE, to(0, 100)), 1, 5);
        range("P15 meet", (x, a) -> x.meet(a[0], a[1]), of(PEOPLE, PEOPLE), 2, 3);
        for (int i = 0; i < 7; i++) {
            int one = i;
            refused("P15 meet: one and the same, " + i, BEYOND, x -> x.meet(one, one));
        }
        refused("P15 meet: one and the same, not there", BEYOND, x -> x.meet(7, 7));
        range("P16 crowd", (x, a) -> x.crowd(a[0], a[1], a[2]), of(PLACES, to(1, 100), to(0, 1)), 2, 5, 1);
        range("P17 planFor", (x, a) -> x.planFor(a[0], a[1]), of(PEOPLE, to(0, 60)), 1, 5);
        range("P18 kindFor", (x, a) -> x.kindFor(a[0], a[1]), of(PEOPLE, to(0, 60)), 1, 5);
        range("P19 looksFor", (x, a) -> x.looksFor(a[0], a[1]), of(PEOPLE, to(0, 60)), 1, 5);
        range("P20 loveFor", (x, a) -> x.loveFor(a[0], a[1]), of(PEOPLE, to(0, 60)), 1, 5);
        range("P21 prizeFor", (x, a) -> x.prizeFor(a[0], a[1]), of(PLACES, to(0, 8)), 2, 1);
        range("P22 tell", (x, a) -> x.tell(a[0], a[1]), of(PLACES, to(0, 8)), 2, 1);
        range("P24 swapFor", (x, a) -> x.swapFor(a[0]), of(to(0, 40)), 3);
        range("P25 fits", (x, a) -> x.fits(a[0], a[1]), of(SHEETS, PEOPLE), 0, 1);
        range("P26 kinds", (x, a) -> x.kinds(a[0], a[1]), of(SHEETS, PEOPLE), 0, 1);
        range("P27 weather", (x, a) -> x.weather(a[0]), of(to(1, 20)), 2);
        range("P28 odds", (x, a) -> x.odds(a[0], a[1]), of(to(0, 20), to(0, 1)), 3, 1);
    }

    private static void rangesOfTextsSpotsAndSheets() {
        range("P30 feed", (x, a) -> x.feed(a[0], a[1]), of(null, to(1, 4)), 'c', 2);
        range("P33 hold", (x, a) -> x.hold(a[0], a[1]), of(to(0, 9), to(-1, 6)), 2, 3);
        refused("P33 hold: nobody is there", BEYOND, TwoTuesdays::new, x -> x.hold(0, 0));
        range("P34 as", (x, a) -> x.as(a[0], a[1]), of(to(0, 9), to(0, 6)), 0, 0);
        range("P35 sheet", (x, a) -> x.sheet(a[0], a[1], a[2]), of(SHEETS, null, null), 0, 16, 3);
        for (int bits : new int[] {-1, -8, 1, 4, 7, 9, 15, 17, 24, 31, 33, 64, 264, MIN, MAX}) {
            refused("P35 sheet: other bits, " + bits, BEYOND, x -> x.sheet(0, bits, 3));
        }
        for (int bits : new int[] {0, 8, 16, 32}) {
            refused("P35 sheet: n is above 40, of bits " + bits, BEYOND, x -> x.sheet(0, bits, 41));
            refused("P35 sheet: n is far above 40, of bits " + bits, BEYOND, x -> x.sheet(0, bits, MAX));
        }
        range("P36 write", (x, a) -> x.write(a[0], a[1], a[2]), of(SHEETS, to(0, 4), null), 0, 2, 7);
        refused("P36 write: a sheet of none has no number", BEYOND, RefusedTests::withEmptySheet, x -> x.write(3, 0, 0));
        range("P38 load", (x, a) -> x.load(a[0]), of(SHEETS), 0);
        range("P39 judge", (x, a) -> x.judge(a[0]), of(SHEETS), 0);
        range("P43 count", (x, a) -> x.count(a[0]), of(to(0, 7)), 1);
        range("P44 status", (x, a) -> x.status(a[0]), of(to(-1, 6)), 0);
    }

    private static TwoTuesdays withEmptySheet() {
        TwoTuesdays x = busy();
        x.sheet(3, 8, 0);
        return x;
    }

    /** Sheet 0 has five numbers, and so many has the other one, sheet 3, of 8 bits too. */
    private static TwoTuesdays withTwoSheets() {
        TwoTuesdays x = busy();
        numbers(x, 3, 8, 9, 8, 7);
        return x;
    }

    private static void numbersOfCopies() {
        Act copy = (x, a) -> x.copy(a[0], a[1], a[2], a[3], a[4]);
        range("P37 copy", copy, of(SHEETS, null, SHEETS, null, null), 0, 1, 0, 0, 2);
        int[][] beyond = {{0, -1, 3, 0, 1}, {0, 0, 3, -1, 1}, {0, 1, 3, 1, -1}, {0, MIN, 3, 0, 1}, {0, 0, 3, MIN, 1},
            {0, 1, 3, 1, MIN}, {0, MAX, 3, 0, 1}, {0, 0, 3, MAX, 1}, {0, 0, 3, 0, MAX}, {0, MAX, 3, MAX, MAX},
            {0, 0, 3, 0, 4}, {0, 5, 3, 0, 1}, {0, 3, 3, 0, 3}, {3, 3, 0, 0, 1}, {3, 0, 0, 5, 1}, {3, 0, 0, 3, 3},
            {0, 0, 3, 3, 1}, {0, 0, 3, 1, 3}, {0, 0, 0, 0, 6}, {0, 1, 0, 0, 5}, {0, 0, 0, 1, 5}, {0, -1, 3, -1, 0},
            {0, MAX, 0, 0, 2}, {0, 0, 0, MAX, 2}, {0, 4, 0, 0, MAX}};
        for (int[] a : beyond) {
            refused("P37 copy" + Arrays.toString(a), BEYOND, RefusedTests::withTwoSheets, x -> copy.on(x, a));
        }
        int[][] fine = {{0, 4, 3, 2, 1}, {0, 2, 3, 0, 3}, {0, 0, 3, 0, 3}, {3, 0, 0, 2, 3}, {0, 0, 0, 0, 5}, {0, 0, 3, 0, 0},
            {0, 5, 3, 3, 0}};
        for (int[] a : fine) {
            due("P37 copy" + Arrays.toString(a), copy.on(withTwoSheets(), a), a[4]);
        }
    }

    // ---- the other findings

    private static void full() {
        for (int kind = 0; kind < 7; kind++) {
            int one = kind;
            refused("P4 person: a ninth, of kind " + kind, FULL, RefusedTests::fullTown, x -> x.person(one, 0));
        }
        for (int n = 1; n <= 4; n++) {
            int bytes = n;
            due("P30 feed: up to 120, by " + n, busyWithTape(120 - n).feed(0, n), 120);
            refused("P30 feed: 121, by " + n, FULL, () -> busyWithTape(121 - bytes), x -> x.feed(0x20202020, bytes));
            refused("P30 feed: full, by " + n, FULL, () -> busyWithTape(120), x -> x.feed(0x20202020, bytes));
        }
    }

    private static void kinds() {
        boolean[][] is = new boolean[7][7];
        int[] above = {-1, 0, 0, 2, 3, 0, 1};
        for (int kind = 0; kind < 7; kind++) {
            for (int top = kind; top >= 0; top = above[top]) {
                is[kind][top] = true;
            }
        }
        for (int kind = 0; kind < 7; kind++) {
            for (int as = 0; as < 7; as++) {
                int one = kind;
                int other = as;
                Supplier<TwoTuesdays> town = () -> heldOf(one);
                if (is[kind][as]) {
                    due("P34 one of kind " + kind + " as " + as, town.get().as(5, as), kind);
                } else {
                    refused("P34 one of kind " + kind + " as " + as, KIND, town, x -> x.as(5, other));
                }
            }
        }
        int[] bits = {8, 16, 32};
        for (int s = 0; s < 3; s++) {
            for (int t = 0; t < 3; t++) {
                int from = s;
                int to = t;
                if (s == t) {
                    due("P37 copy of as many bits: " + bits[s], busy().copy(s, 0, t, 0, 1), 1);
                } else {
                    refused("P37 copy of " + bits[s] + " bits to " + bits[t], KIND, x -> x.copy(from, 0, to, 0, 1));
                }
            }
        }
        refused("P37 copy of none, of other bits", KIND, x -> x.copy(0, 0, 1, 0, 0));
    }

    private static TwoTuesdays heldOf(int kind) {
        TwoTuesdays x = busy();
        x.hold(5, kind);
        return x;
    }

    private static TwoTuesdays looking(int plan, int looks) {
        TwoTuesdays x = townOf(PERSON, plan);
        x.change(0, 2, looks);
        return x;
    }

    /** Every plan, every way to look, every place: what is no further than it looks is seen, the rest is NONE. */
    private static void noneSeen() {
        for (int plan = 0; plan < 8; plan++) {
            for (int looks = 0; looks < 8; looks++) {
                TwoTuesdays x = looking(plan, looks);
                for (int place = 0; place < 8; place++) {
                    int far = plan > place ? plan - place : place - plan;
                    String at = place + " from " + plan + ", looking " + looks;
                    due("P7 seen at " + at, x.seen(0, place), far <= looks ? 0 : NONE);
                    due("P8 wishes at " + at, x.wishes(0, place), far <= looks ? 10 : NONE);
                }
            }
        }
        refused("P7 seen: one further than it looks", NONE, () -> looking(3, 2), x -> x.seen(0, 6));
        refused("P7 seen: one further, the other way", NONE, () -> looking(3, 2), x -> x.seen(0, 0));
        refused("P8 wishes: one further than it looks", NONE, () -> looking(3, 2), x -> x.wishes(0, 6));
        refused("P8 wishes: one further, the other way", NONE, () -> looking(3, 2), x -> x.wishes(0, 0));
        refused("P7 seen: the last place is not beside the first", NONE, () -> looking(0, 1), x -> x.seen(0, 7));
        refused("P7 seen: the first place is not beside the last", NONE, () -> looking(7, 1), x -> x.seen(0, 0));
    }

    /** Two gamblers at one place leave it both, see one another again and come back. */
    private static TwoTuesdays restless() {
        return prizes(townOf(GAMBLER, 0, 0), 10, 10, 0, 0, 0, 0, 0, 0);
    }

    private static TwoTuesdays climber() {
        return prizes(townOf(PERSON, 0), 0, 10, 20, 30, 40, 50, 60, 70);
    }

    private static void noneInTime() {
        refused("P13 rests: never", NONE, RefusedTests::restless, x -> x.rests());
        refused("P14 round: never", NONE, RefusedTests::climber, x -> x.round());
        refused("P15 meet: never", NONE, () -> townOf(CAT, 3, 4), x -> x.meet(0, 1));
        refused("P15 meet: never, the other way round", NONE, () -> townOf(CAT, 3, 4), x -> x.meet(1, 0));
    }

    private static void noneOfThoseThere() {
        refused("P21 prizeFor: nobody is there", NONE, TwoTuesdays::new, x -> x.prizeFor(0, 1));
        refused("P21 prizeFor: more than there are", NONE, () -> townOf(CAT, 2, 2), x -> x.prizeFor(2, 3));
        refused("P21 prizeFor: none comes for 200", NONE, () -> prizes(townOf(PERSON, 0), 201), x -> x.prizeFor(1, 1));
        refused("P22 tell: nobody is there", NONE, TwoTuesdays::new, x -> x.tell(0, 1));
        refused("P22 tell: more than there are", NONE, () -> townOf(CAT, 2, 2), x -> x.tell(2, 3));
        refused("P22 tell: none stays there", NONE, () -> prizes(townOf(PERSON, 0), 10, 11), x -> x.tell(0, 1));
        refused("P23 away: there are no people", NONE, TwoTuesdays::new, x -> x.away());
        refused("P24 swapFor: nobody", NONE, TwoTuesdays::new, x -> x.swapFor(0));
        refused("P24 swapFor: one", NONE, () -> townOf(CAT, 2), x -> x.swapFor(40));
        refused("P41 undo: nothing was kept", NONE, TwoTuesdays::new, x -> x.undo());
        refused("P41 undo: nothing is kept any more", NONE, RefusedTests::torn, x -> x.undo());
    }

    private static TwoTuesdays torn() {
        TwoTuesdays x = busy();
        x.tear();
        return x;
    }

    private static TwoTuesdays withoutSheets() {
        TwoTuesdays x = busy();
        for (int s = 0; s < 3; s++) {
            x.sheet(s, 0, 5);
        }
        return x;
    }

    private static void missing() {
        for (int s = 0; s < 4; s++) {
            int sheet = s;
            for (Supplier<TwoTuesdays> town : List.<Supplier<TwoTuesdays>>of(TwoTuesdays::new, RefusedTests::withoutSheets)) {
                refused("P25 fits: sheet " + s, MISSING, town, x -> x.fits(sheet, 0));
                refused("P26 kinds: sheet " + s, MISSING, town, x -> x.kinds(sheet, 0));
                refused("P36 write: sheet " + s, MISSING, town, x -> x.write(sheet, 0, 0));
                refused("P37 copy: sheet " + s, MISSING, town, x -> x.copy(sheet, 0, sheet, 0, 0));
                refused("P38 load: sheet " + s, MISSING, town, x -> x.load(sheet));
                refused("P39 judge: sheet " + s, MISSING, town, x -> x.judge(sheet));
            }
        }
        refused("P37 copy: the one is missing", MISSING, x -> x.copy(3, 0, 0, 0, 1));
        refused("P37 copy: the other one is missing", MISSING, x -> x.copy(0, 0, 3, 0, 1));
        for (int spot = 0; spot < 10; spot++) {
            int empty = spot;
            refused("P34 as: spot " + spot + " holds nothing", MISSING, TwoTuesdays::new, x -> x.as(empty, 0));
        }
        refused("P34 as: the spot holds nothing any more", MISSING, () -> heldOf(-1), x -> x.as(5, 0));
    }

    private static void sizes() {
        for (int s = 0; s < 4; s++) {
            for (int bits : new int[] {0, 8, 16, 32}) {
                int sheet = s;
                refused("P35 sheet: n is -1, of bits " + bits, SIZE, x -> x.sheet(sheet, bits, -1));
                refused("P35 sheet: n is the least int, of bits " + bits, SIZE, x -> x.sheet(sheet, bits, MIN));
            }
        }
    }

    // ---- which comes first

    private static void order() {
        refused("P4 BEYOND, then FULL: kind", BEYOND, RefusedTests::fullTown, x -> x.person(7, 0));
        refused("P4 BEYOND, then FULL: plan", BEYOND, RefusedTests::fullTown, x -> x.person(0, 8));
        refused("P7 BEYOND, then NONE: place", BEYOND, () -> looking(0, 0), x -> x.seen(0, 8));
        refused("P7 BEYOND, then NONE: person", BEYOND, () -> looking(0, 0), x -> x.seen(1, 7));
        refused("P8 BEYOND, then NONE: place", BEYOND, () -> looking(0, 0), x -> x.wishes(0, 8));
        refused("P8 BEYOND, then NONE: person", BEYOND, () -> looking(0, 0), x -> x.wishes(1, 7));
        refused("P15 BEYOND, then NONE", BEYOND, () -> townOf(CAT, 3, 4), x -> x.meet(0, 2));
        refused("P21 BEYOND, then NONE: k", BEYOND, TwoTuesdays::new, x -> x.prizeFor(0, 9));
        refused("P21 BEYOND, then NONE: place", BEYOND, TwoTuesdays::new, x -> x.prizeFor(8, 8));
        refused("P22 BEYOND, then NONE: k", BEYOND, TwoTuesdays::new, x -> x.tell(0, 9));
        refused("P22 BEYOND, then NONE: place", BEYOND, TwoTuesdays::new, x -> x.tell(8, 8));
        refused("P24 BEYOND, then NONE: 41", BEYOND, TwoTuesdays::new, x -> x.swapFor(41));
        refused("P24 BEYOND, then NONE: -1", BEYOND, () -> townOf(CAT, 3), x -> x.swapFor(-1));
        refused("P25 no such sheet, then MISSING", BEYOND, TwoTuesdays::new, x -> x.fits(4, 0));
        refused("P25 MISSING, then no such one", MISSING, x -> x.fits(3, 7));
        refused("P26 no such sheet, then MISSING", BEYOND, TwoTuesdays::new, x -> x.kinds(4, 0));
        refused("P26 MISSING, then no such one", MISSING, x -> x.kinds(3, 7));
        refused("P30 BEYOND, then FULL: 5", BEYOND, () -> busyWithTape(120), x -> x.feed(0, 5));
        refused("P30 BEYOND, then FULL: 0", BEYOND, () -> busyWithTape(120), x -> x.feed(0, 0));
        refused("P34 BEYOND, then MISSING: kind", BEYOND, x -> x.as(8, 7));
        refused("P34 BEYOND, then KIND", BEYOND, x -> x.as(0, 7));
        refused("P34 MISSING, then KIND", MISSING, x -> x.as(8, 4));
        refused("P35 no such sheet, then SIZE", BEYOND, x -> x.sheet(4, 8, -1));
        refused("P35 other bits, then SIZE", BEYOND, x -> x.sheet(0, 9, -1));
        refused("P36 no such sheet, then MISSING", BEYOND, TwoTuesdays::new, x -> x.write(4, 0, 0));
        refused("P36 MISSING, then no such number: -1", MISSING, x -> x.write(3, -1, 0));
        refused("P36 MISSING, then no such number: 40", MISSING, x -> x.write(3, 40, 0));
        refused("P37 no such sheet, then MISSING: the one", BEYOND, x -> x.copy(4, 0, 3, 0, 0));
        refused("P37 no such sheet, then MISSING: the other", BEYOND, x -> x.copy(3, 0, -1, 0, 0));
        refused("P37 MISSING, then BEYOND: the one", MISSING, x -> x.copy(3, -1, 0, -1, -1));
        refused("P37 MISSING, then BEYOND: the other", MISSING, x -> x.copy(0, 40, 3, 40, 40));
        refused("P37 KIND, then below 0", KIND, x -> x.copy(0, -1, 1, 0, 1));
        refused("P37 KIND, then not so many", KIND, x -> x.copy(0, 0, 2, 0, 40));
    }

    private static void findingsInLongs() {
        long odds = busy().odds(21, 0);
        due("Terms: findings in longs, too", odds, -1000001L);
    }

    /** Behind a FAULT all is as if THE TAPE had been wiped, status() too. */
    private static void faultsChangeNothing() {
        for (String text : new String[] {"", "cat at 3;", "cat at 3;cat at 4", "prize 0 1;prize 4 5;prize 8 0", "cat;cat loves 8",
            "cat at 7 looks 7 loves 6;!", "prize 1 1 1", "prize 0 0;dog"}) {
            due("P32 nothing changes at a FAULT: '" + text + "'", showsFault(text) ? 1 : 0, 0);
            TwoTuesdays x = busy();
            x.wipe();
            type(x, text);
            int[] statuses = statuses(x);
            due("P32 a FAULT is below 0: '" + text + "'", x.text() < 0 ? 1 : 0, 1);
            due("P32 a FAULT is no finding: '" + text + "'", Arrays.equals(statuses, statuses(x)) ? 1 : 0, 1);
        }
    }

    private static boolean showsFault(String text) {
        for (int part = 0; part < PARTS; part++) {
            TwoTuesdays with = busy();
            with.wipe();
            type(with, text);
            with.text();
            TwoTuesdays without = busy();
            without.wipe();
            if (!look(part, with).equals(look(part, without))) {
                return true;
            }
        }
        return false;
    }

    // ---- what is answered and changes nothing

    private static void nothingChanges() {
        Call[] calls = {x -> x.place(3, 0), x -> x.place(3, 1), x -> x.place(3, 2), x -> x.seen(3, 7),
            x -> x.wishes(3, 0), x -> x.ahead(0, 100), x -> x.plan(0, 100), x -> x.rests(), x -> x.round(),
            x -> x.meet(0, 2), x -> x.meet(5, 6), x -> x.crowd(2, 100, 1), x -> x.planFor(0, 60), x -> x.kindFor(0, 60),
            x -> x.looksFor(0, 60), x -> x.loveFor(2, 60), x -> x.prizeFor(2, 2), x -> x.prizeFor(0, 8),
            x -> x.tell(7, 3), x -> x.tell(7, 8), x -> x.away(), x -> x.swapFor(40), x -> x.fits(0, 0),
            x -> x.kinds(0, 0), x -> x.odds(20, 0), x -> x.odds(20, 1), x -> x.as(0, 0), x -> x.load(3),
            x -> x.judge(0), x -> x.judge(1), x -> x.status(-1), x -> x.seed(777), x -> x.hold(0, 0),
            x -> x.copy(0, 0, 0, 0, 5)};
        for (int i = 0; i < calls.length; i++) {
            due("nothing changes by what is only asked, " + i, shows(RefusedTests::busy, calls[i]) ? 1 : 0, 0);
        }
        for (int what = 0; what < 8; what++) {
            int one = what;
            due("P5 of() changes nothing, " + what, shows(RefusedTests::busy, x -> x.of(3, one)) ? 1 : 0, 0);
            due("P10 now() changes nothing, " + what, shows(RefusedTests::busy, x -> x.now(one)) ? 1 : 0, 0);
            due("P43 count() changes nothing, " + what, shows(RefusedTests::busy, x -> x.count(one)) ? 1 : 0, 0);
        }
    }
}
