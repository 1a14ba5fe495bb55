import java.util.function.LongSupplier;

/**
 * Each sentence of the document that names the edge of something: the least and the most, nothing
 * and all, what is cut, what ends at a bound, what wraps around, which of several counts. Every
 * edge has a town of its own, so that one that is broken tells of itself alone. The calls that are
 * refused stand in RefusedTests.
 */
public final class EdgeTests {
    private static final int BEYOND = -1000001;
    private static final int FULL = -1000002;
    private static final int NONE = -1000004;
    private static final int MISSING = -1000006;

    private static final int MIN = Integer.MIN_VALUE;
    private static final int MAX = Integer.MAX_VALUE;

    private static final int PERSON = 0;
    private static final int GAMBLER = 1;
    private static final int LOVER = 2;
    private static final int JEALOUS = 3;
    private static final int THIEF = 4;
    private static final int CAT = 5;
    private static final int SLEEPER = 6;
    private static final String[] NAMES = {"person", "gambler", "lover", "jealous", "thief", "cat", "sleeper"};

    private static final int PROMISES = 44;
    private static final int[] edgesOf = new int[1 + PROMISES];

    private static int edges = 0;
    private static int wrong = 0;

    /** The sentence begins with P and the number of its promise, or with no number if it is of none. */
    private static void edge(String sentence, long due, LongSupplier answer) {
        edges++;
        if (sentence.matches("P[0-9]+ .*")) {
            edgesOf[Integer.parseInt(sentence.substring(1, sentence.indexOf(' ')))]++;
        }
        long got = answer.getAsLong();
        if (got != due) {
            wrong++;
            System.out.println(sentence + ": answered " + got + ", due is " + due);
        }
    }

    public static void main(String[] args) {
        calls();
        findings();
        newObject();
        prizes();
        placeSets();
        newOnes();
        changes();
        seen();
        wishesOfPersons();
        wishesOfGamblersAndSleepers();
        wishesOfLovers();
        wishesOfCats();
        choices();
        gets();
        regrets();
        tuesdays();
        goodsEnd();
        now();
        aheadAndPlan();
        rests();
        round();
        meet();
        crowd();
        planFor();
        kindFor();
        looksFor();
        loveFor();
        prizeFor();
        tell();
        away();
        swapFor();
        fits();
        kinds();
        weather();
        odds();
        seed();
        tape();
        itemsOfTexts();
        numbersOfTexts();
        tokens();
        otherWords();
        tapesReadAgain();
        textsThatEndTooEarly();
        tokensThatCannotStand();
        lovesOfTexts();
        ninthOfTexts();
        spots();
        sheets();
        bits();
        copies();
        loads();
        judges();
        images();
        counts();
        status();
        for (int promise = 1; promise <= PROMISES; promise++) {
            int there = edgesOf[promise];
            edge("each promise has an edge, " + promise, 1, () -> Math.min(1, there));
        }
        if (wrong != 0) {
            System.out.println(wrong + " of " + edges + " edges are not as due");
            System.exit(1);
        }
        System.out.println("all " + edges + " edges are as due");
    }

    // ---- towns

    /** One of the kind at each of the plans; prizes are 10 each. */
    private static TwoTuesdays town(int kind, int... plans) {
        TwoTuesdays x = new TwoTuesdays();
        for (int plan : plans) {
            x.person(kind, plan);
        }
        return x;
    }

    /** Prizes of the first places; the others are 0. */
    private static TwoTuesdays prized(TwoTuesdays x, int... prizes) {
        for (int place = 0; place < 8; place++) {
            x.prize(place, place < prizes.length ? prizes[place] : 0);
        }
        return x;
    }

    /** Prizes, then of each one kind, plan, looks, love. */
    private static TwoTuesdays town(int[] prizes, int[]... people) {
        TwoTuesdays x = prized(new TwoTuesdays(), prizes);
        for (int[] one : people) {
            x.person(one[0], one[1]);
        }
        for (int i = 0; i < people.length; i++) {
            x.change(i, 2, people[i][2]);
            x.change(i, 3, people[i][3]);
        }
        return x;
    }

    private static TwoTuesdays changed(TwoTuesdays x, int person, int what, int v) {
        x.change(person, what, v);
        return x;
    }

    private static TwoTuesdays gone(TwoTuesdays x, int n) {
        x.go(n);
        return x;
    }

    private static TwoTuesdays numbers(TwoTuesdays x, int bits, int... numbers) {
        x.sheet(0, bits, numbers.length);
        for (int i = 0; i < numbers.length; i++) {
            x.write(0, i, numbers[i]);
        }
        return x;
    }

    private static TwoTuesdays typed(TwoTuesdays x, String text) {
        for (int i = 0; i < text.length(); i++) {
            x.feed(text.charAt(i), 1);
        }
        return x;
    }

    private static TwoTuesdays read(String text) {
        TwoTuesdays x = typed(new TwoTuesdays(), text);
        x.text();
        return x;
    }

    private static void text(String sentence, String text, int due) {
        edge("P32 " + sentence + ": '" + text + "'", due, () -> typed(new TwoTuesdays(), text).text());
    }

    /** FAULT is at a byte: what text() answers is -1 less it. */
    private static void fault(String sentence, String text, int at) {
        text(sentence, text, -1 - at);
    }

    private static String repeat(String text, int times) {
        return text.repeat(times);
    }

    // ---- the face, the terms

    private static void calls() {
        edge("an object is used for 512 calls", 510, () -> {
            TwoTuesdays x = new TwoTuesdays();
            for (int i = 0; i < 511; i++) {
                x.seed(i);
            }
            return x.seed(0);
        });
        edge("511 of 512 calls may be refused", 511, () -> {
            TwoTuesdays x = new TwoTuesdays();
            for (int i = 0; i < 511; i++) {
                x.prize(8, 0);
            }
            return x.status(-1);
        });
        edge("as many Tuesdays as 511 calls can bring", 511 * 60, () -> {
            TwoTuesdays x = new TwoTuesdays();
            for (int i = 0; i < 511; i++) {
                x.go(60);
            }
            return x.now(0);
        });
    }

    private static void findings() {
        edge("Terms BEYOND is LOW", -1000001, () -> new TwoTuesdays().now(9));
        edge("Terms FULL is LOW - 1", -1000002, () -> town(CAT, 0, 0, 0, 0, 0, 0, 0, 0).person(CAT, 0));
        edge("Terms KIND is LOW - 2", -1000003, () -> {
            TwoTuesdays x = town(CAT, 0);
            x.hold(0, 0);
            return x.as(0, GAMBLER);
        });
        edge("Terms NONE is LOW - 3", -1000004, () -> new TwoTuesdays().undo());
        edge("Terms MISSING is LOW - 5", -1000006, () -> new TwoTuesdays().load(0));
        edge("Terms SIZE is LOW - 6", -1000007, () -> new TwoTuesdays().sheet(0, 8, -1));
        edge("Terms in longs, too", -1000001L, () -> new TwoTuesdays().odds(0, 2));
        for (int z : new int[] {MIN, MAX, -1000000, -1000001, -1000002, -1000003, -1000004, -1000005, -1000006, -1000007}) {
            edge("Terms seed() may tell " + z, z, () -> seeded(z).seed(0));
            edge("Terms count(6) may tell " + z, z, () -> seeded(z).count(6));
            edge("Terms that is no finding: " + z, 0, () -> {
                TwoTuesdays x = seeded(z);
                x.count(6);
                x.seed(0);
                return x.status(-1);
            });
        }
    }

    private static TwoTuesdays seeded(int z) {
        TwoTuesdays x = new TwoTuesdays();
        x.seed(z);
        return x;
    }

    private static void newObject() {
        for (int i = 0; i < 8; i++) {
            int place = i;
            edge("P1 PRIZE is 10 at first, of " + i, 10, () -> new TwoTuesdays().place(place, 0));
            edge("P1 nobody is there on THE FIRST at " + i, 0, () -> new TwoTuesdays().place(place, 1));
            edge("P1 nobody is there on THE SECOND at " + i, 0, () -> new TwoTuesdays().place(place, 2));
        }
        int[] counts = {0, 0, 0, 0, 0, 0, 1, 0};
        for (int i = 0; i < 8; i++) {
            int what = i;
            edge("P1 count " + i + " at first", counts[i], () -> new TwoTuesdays().count(what));
        }
        int[] nows = {0, 0, 0, 0, 0, -1};
        for (int i = 0; i < 6; i++) {
            int what = i;
            edge("P1 now " + i + " at first", nows[i], () -> new TwoTuesdays().now(what));
        }
        for (int i = 0; i < 10; i++) {
            int spot = i;
            edge("P1 SPOT " + i + " holds nothing at first", MISSING, () -> new TwoTuesdays().as(spot, PERSON));
        }
        for (int i = 0; i < 4; i++) {
            int s = i;
            edge("P1 SHEET " + i + " is MISSING at first", MISSING, () -> new TwoTuesdays().load(s));
        }
        for (int i = -1; i < 7; i++) {
            int which = i;
            edge("P1 status " + i + " at first", 0, () -> new TwoTuesdays().status(which));
        }
        edge("P1 THE TAPE is empty", 0, () -> new TwoTuesdays().wipe());
        edge("P1 no image is kept", NONE, () -> new TwoTuesdays().undo());
        edge("P1 no image is there to tear", 0, () -> new TwoTuesdays().tear());
        edge("P1 z is 1 at first", 1, () -> new TwoTuesdays().seed(0));
    }

    // ---- places, people

    private static void prizes() {
        for (int i = 0; i < 8; i++) {
            int place = i;
            edge("P2 PRIZE becomes 0, of " + i, 0, () -> {
                TwoTuesdays x = new TwoTuesdays();
                x.prize(place, 0);
                return x.place(place, 0);
            });
            edge("P2 PRIZE becomes 9999, of " + i, 9999, () -> {
                TwoTuesdays x = new TwoTuesdays();
                x.prize(place, 9999);
                return x.prize(place, 1);
            });
        }
        edge("P2 what it was at first", 10, () -> new TwoTuesdays().prize(7, 0));
    }

    private static void placeSets() {
        for (int i = 0; i < 8; i++) {
            int place = i;
            edge("P3 all eight on THE FIRST at " + i, 255, () -> eightAt(place).place(place, 1));
            edge("P3 all eight on THE SECOND at " + i, 255, () -> eightAt(place).place(place, 2));
            edge("P3 the last alone on THE FIRST at " + i, 128, () -> lastAt(place).place(place, 1));
            edge("P3 the last alone on THE SECOND at " + i, 128, () -> lastAt(place).place(place, 2));
        }
        edge("P3 one who leaves is there on THE FIRST", 1, () -> prized(town(PERSON, 0), 0, 5).place(0, 1));
        edge("P3 one who leaves isn't there on THE SECOND", 0, () -> prized(town(PERSON, 0), 0, 5).place(0, 2));
        edge("P3 one who comes isn't there on THE FIRST", 0, () -> prized(town(PERSON, 0), 0, 5).place(1, 1));
        edge("P3 one who comes is there on THE SECOND", 1, () -> prized(town(PERSON, 0), 0, 5).place(1, 2));
    }

    private static TwoTuesdays eightAt(int place) {
        return town(CAT, place, place, place, place, place, place, place, place);
    }

    private static TwoTuesdays lastAt(int place) {
        int other = 7 - place;
        return town(CAT, other, other, other, other, other, other, other, place);
    }

    private static void newOnes() {
        for (int i = 0; i < 8; i++) {
            int number = i;
            edge("P4 the number of one behind " + i, i, () -> {
                TwoTuesdays x = new TwoTuesdays();
                for (int k = 0; k < number; k++) {
                    x.person(CAT, 7);
                }
                return x.person(SLEEPER, 0);
            });
        }
        for (int i = 0; i < 7; i++) {
            int kind = i;
            int[] traits = {kind, 7, 1, -1, 0};
            for (int k = 0; k < 5; k++) {
                int what = k;
                edge("P4 a new one of kind " + i + ", " + k, traits[k], () -> town(kind, 7).of(0, what));
            }
        }
        int[] atFirst = {CAT, 0, 1, -1, 0};
        for (int k = 0; k < 5; k++) {
            int what = k;
            edge("P4 a new one has nothing of one who was there before undo(), " + k, atFirst[k], () -> {
                TwoTuesdays x = new TwoTuesdays();
                x.image();
                x.person(THIEF, 6);
                x.person(CAT, 6);
                x.change(0, 2, 7);
                x.change(0, 3, 1);
                x.change(0, 4, 99);
                x.undo();
                x.person(CAT, 0);
                return x.of(0, what);
            });
        }
        edge("P4 an eighth behind undo()", 7, () -> {
            TwoTuesdays x = town(CAT, 0, 1, 2, 3, 4, 5, 6);
            x.image();
            x.person(CAT, 7);
            x.undo();
            return x.person(CAT, 7);
        });
    }

    private static void changes() {
        int[][] bounds = {{0, 6, 0}, {0, 7, 4}, {0, 7, 1}, {-1, 6, -1}, {0, 99999, 0}};
        String[] names = {"KIND", "PLAN", "LOOKS", "LOVE", "GOODS"};
        for (int i = 0; i < 5; i++) {
            int what = i;
            for (int k = 0; k < 2; k++) {
                int v = bounds[i][k];
                edge("P6 what " + names[i] + " was", bounds[i][2], () -> eightPersons().change(7, what, v));
                edge("P6 " + names[i] + " becomes " + v, v, () -> changed(eightPersons(), 7, what, v).of(7, what));
                edge("P6 " + names[i] + " was " + v, v, () -> changed(eightPersons(), 7, what, v).change(7, what, 3));
            }
        }
        edge("P6 LOVE of the first becomes the last", 7, () -> changed(eightPersons(), 0, 3, 7).of(0, 3));
        edge("P6 LOVE becomes nobody again", -1, () -> changed(changed(eightPersons(), 0, 3, 7), 0, 3, -1).of(0, 3));
        edge("P6 two who love one another", 1, () -> changed(changed(town(LOVER, 1, 2), 0, 3, 1), 1, 3, 0).of(0, 3));
    }

    private static TwoTuesdays eightPersons() {
        return town(PERSON, 4, 4, 4, 4, 4, 4, 4, 4);
    }

    /** One of a kind at 3 that sees all; so many cats are at 5. */
    private static TwoTuesdays watching(int kind, int cats, int prizeAt5) {
        TwoTuesdays x = changed(town(kind, 3), 0, 2, 7);
        for (int i = 0; i < cats; i++) {
            x.person(CAT, 5);
        }
        x.prize(5, prizeAt5);
        return x;
    }

    private static void seen() {
        edge("P7 SEEN: nobody", 0, () -> watching(PERSON, 0, 10).seen(0, 5));
        edge("P7 SEEN: one", 1, () -> watching(PERSON, 1, 10).seen(0, 5));
        edge("P7 SEEN: all seven others", 7, () -> watching(PERSON, 7, 10).seen(0, 5));
        edge("P7 SEEN: others, so not itself", 0, () -> town(PERSON, 5).seen(0, 5));
        edge("P7 SEEN: all seven others at its own PLAN", 7, () -> eightAt(5).seen(7, 5));
        edge("P7 SEEN: whose PLAN is there, though it goes elsewhere", 1, () -> prized(town(PERSON, 0, 0), 0, 9).seen(0, 0));
        edge("P7 SEEN: not whose CHOICE alone is there", 0, () -> prized(town(PERSON, 0, 0), 0, 9).seen(0, 1));
        edge("P7 looking 0 it sees its PLAN", 1, () -> changed(town(CAT, 3, 3), 0, 2, 0).seen(0, 3));
        edge("P7 looking 0 it sees no more", NONE, () -> changed(town(CAT, 3, 3), 0, 2, 0).seen(0, 4));
        edge("P7 looking 7 it sees from end to end", 1, () -> changed(town(CAT, 0, 7), 0, 2, 7).seen(0, 7));
        edge("P7 looking 7, the other way round", 1, () -> changed(town(CAT, 7, 0), 0, 2, 7).seen(0, 0));
        edge("P7 looking 6 it does not", NONE, () -> changed(town(CAT, 0, 7), 0, 2, 6).seen(0, 7));
        edge("P7 what another one looks does not count", NONE, () -> changed(town(CAT, 0, 7), 1, 2, 7).seen(0, 7));
    }

    private static void wishesOfPersons() {
        edge("P8 PERSON: the greatest PRIZE, alone", 9999, () -> watching(PERSON, 0, 9999).wishes(0, 5));
        edge("P8 PERSON: by 1 more than it has SEEN", 4999, () -> watching(PERSON, 1, 9999).wishes(0, 5));
        edge("P8 PERSON: by eight, cut", 1249, () -> watching(PERSON, 7, 9999).wishes(0, 5));
        edge("P8 PERSON: less than there are heads", 0, () -> watching(PERSON, 7, 7).wishes(0, 5));
        edge("P8 PERSON: as much as there are heads", 1, () -> watching(PERSON, 7, 8).wishes(0, 5));
        edge("P8 PERSON: no PRIZE", 0, () -> watching(PERSON, 0, 0).wishes(0, 5));
        edge("P8 PERSON: at its PLAN it has not SEEN itself", 11, () -> prized(town(PERSON, 0), 11).wishes(0, 0));
        edge("P8 PERSON: nothing for its LOVE", 5, () -> changed(watching(PERSON, 1, 10), 0, 3, 1).wishes(0, 5));
    }

    private static void wishesOfGamblersAndSleepers() {
        edge("P8 GAMBLER: PRIZE, if nobody is SEEN", 9999, () -> watching(GAMBLER, 0, 9999).wishes(0, 5));
        edge("P8 GAMBLER: else 0, for one", 0, () -> watching(GAMBLER, 1, 9999).wishes(0, 5));
        edge("P8 GAMBLER: else 0, for seven", 0, () -> watching(GAMBLER, 7, 9999).wishes(0, 5));
        edge("P8 GAMBLER: alone at its PLAN", 11, () -> prized(town(GAMBLER, 0), 11).wishes(0, 0));
        edge("P8 GAMBLER: at its PLAN with one more", 0, () -> prized(town(GAMBLER, 0, 0), 11).wishes(0, 0));
        edge("P8 GAMBLER: nothing for its LOVE", 0, () -> changed(watching(GAMBLER, 1, 10), 0, 3, 1).wishes(0, 5));
        edge("P8 SLEEPER: alone at its PLAN", 9999, () -> prized(town(SLEEPER, 0), 9999).wishes(0, 0));
        edge("P8 SLEEPER: at its PLAN with one more", 0, () -> prized(town(SLEEPER, 0, 0), 9999).wishes(0, 0));
        edge("P8 SLEEPER: 0 beside its PLAN", 0, () -> prized(town(SLEEPER, 0), 0, 9999).wishes(0, 1));
        edge("P8 SLEEPER: 0 on the other side", 0, () -> prized(town(SLEEPER, 1), 9999).wishes(0, 0));
        edge("P8 SLEEPER: nothing for its LOVE", 0, () -> changed(watching(SLEEPER, 1, 10), 0, 3, 1).wishes(0, 5));
    }

    private static void wishesOfLovers() {
        int[] kinds = {LOVER, JEALOUS, THIEF};
        // With no PRIZE at 5: of nobody SEEN, one, seven; then of one and seven, if one of them is its LOVE.
        int[][] wishes = {{0, 0, 0, 100, 100}, {0, -5, -35, 95, 65}, {0, 2, 14, 102, 114}};
        for (int i = 0; i < 3; i++) {
            int kind = kinds[i];
            String name = "P8 " + NAMES[kind];
            edge(name + ": nobody SEEN", wishes[i][0], () -> watching(kind, 0, 0).wishes(0, 5));
            edge(name + ": one SEEN", wishes[i][1], () -> watching(kind, 1, 0).wishes(0, 5));
            edge(name + ": seven SEEN", wishes[i][2], () -> watching(kind, 7, 0).wishes(0, 5));
            edge(name + ": its LOVE SEEN", wishes[i][3], () -> changed(watching(kind, 1, 0), 0, 3, 1).wishes(0, 5));
            edge(name + ": its LOVE the last of seven", wishes[i][4], () -> changed(watching(kind, 7, 0), 0, 3, 7).wishes(0, 5));
            edge(name + ": the greatest PRIZE by eight, cut", 1249 + wishes[i][4],
                () -> changed(watching(kind, 7, 9999), 0, 3, 7).wishes(0, 5));
            edge(name + ": the greatest PRIZE, nobody SEEN", 9999, () -> watching(kind, 0, 9999).wishes(0, 5));
            edge(name + ": its LOVE is elsewhere", 10, () -> changed(watching(kind, 1, 0), 0, 3, 1).wishes(0, 4));
            edge(name + ": its LOVE at its own PLAN", 5 + wishes[i][3], () -> {
                TwoTuesdays x = changed(town(kind, 3), 0, 2, 0);
                x.person(CAT, 3);
                x.change(0, 3, 1);
                return x.wishes(0, 3);
            });
            edge(name + ": where PLAN of its LOVE is, not its CHOICE", 0, () -> {
                TwoTuesdays x = prized(changed(town(kind, 3), 0, 2, 7), 0, 0, 0, 0, 0, 0, 9);
                x.person(PERSON, 5);
                x.change(0, 3, 1);
                return x.wishes(0, 6) - 9;
            });
        }
    }

    private static void wishesOfCats() {
        edge("P8 CAT: 1 at its PLAN, whatever PRIZE", 1, () -> prized(town(CAT, 0), 9999).wishes(0, 0));
        edge("P8 CAT: 1 at its PLAN without PRIZE", 1, () -> prized(town(CAT, 0)).wishes(0, 0));
        edge("P8 CAT: 1 at its PLAN with seven others", 1, () -> eightAt(2).wishes(7, 2));
        edge("P8 CAT: 0 beside it", 0, () -> prized(town(CAT, 0), 0, 9999).wishes(0, 1));
        edge("P8 CAT: nothing for its LOVE", 0, () -> changed(watching(CAT, 1, 10), 0, 3, 1).wishes(0, 5));
    }

    private static void choices() {
        edge("P5 CHOICE: of equal ones the PLAN, not the least", 4, () -> changed(town(PERSON, 4), 0, 2, 7).of(0, 5));
        edge("P5 CHOICE: of two others the least", 3, () -> prized(town(PERSON, 4), 0, 0, 0, 7, 0, 7).of(0, 5));
        edge("P5 CHOICE: of seven others the least", 0,
            () -> prized(changed(town(PERSON, 7), 0, 2, 7), 9, 9, 9, 9, 9, 9, 9, 8).of(0, 5));
        edge("P5 CHOICE: one more than at the PLAN", 5, () -> prized(town(PERSON, 4), 0, 0, 0, 0, 7, 8).of(0, 5));
        edge("P5 CHOICE: just as far as it looks", 6, () -> prized(changed(town(PERSON, 4), 0, 2, 2), 0, 0, 0, 0, 0, 0, 9).of(0, 5));
        edge("P5 CHOICE: just as far, the other way", 2, () -> prized(changed(town(PERSON, 4), 0, 2, 2), 0, 0, 9).of(0, 5));
        edge("P5 CHOICE: one further it does not see", 4,
            () -> prized(changed(town(PERSON, 4), 0, 2, 2), 0, 9, 0, 0, 0, 0, 0, 9).of(0, 5));
        edge("P5 CHOICE: looking 0 its PLAN", 4, () -> prized(changed(town(PERSON, 4), 0, 2, 0), 9, 9, 9, 9, 0, 9, 9, 9).of(0, 5));
        edge("P5 CHOICE: from end to end", 7, () -> prized(changed(town(PERSON, 0), 0, 2, 7), 8, 8, 8, 8, 8, 8, 8, 9).of(0, 5));
        edge("P5 CHOICE: from end to end, back", 0, () -> prized(changed(town(PERSON, 7), 0, 2, 7), 9, 8, 8, 8, 8, 8, 8, 8).of(0, 5));
        edge("P5 CHOICE: the row has an end at 7", 7, () -> prized(town(PERSON, 7), 9999).of(0, 5));
        edge("P5 CHOICE: the row has an end at 0", 0, () -> prized(town(PERSON, 0), 0, 0, 0, 0, 0, 0, 0, 9999).of(0, 5));
        edge("P5 CHOICE: all WISHES 0", 3, () -> prized(changed(town(PERSON, 3), 0, 2, 7)).of(0, 5));
        edge("P5 CHOICE: WISHES below 0 at the PLAN, 0 beside it", 2, () -> prized(town(JEALOUS, 3, 3)).of(0, 5));
        edge("P5 CHOICE: all WISHES below 0, the most of them", 4, () -> prized(town(JEALOUS, 3, 2, 2, 4, 3, 3)).of(0, 5));
        edge("P5 CHOICE: equal WISHES below 0, the PLAN", 3, () -> prized(town(JEALOUS, 3, 3, 2, 4)).of(0, 5));
        edge("P5 CHOICE: SLEEPER that WISHES 0 all over", 3, () -> prized(town(SLEEPER, 3, 3), 0, 0, 9, 0, 9).of(0, 5));
        edge("P5 CHOICE: CAT", 3, () -> prized(changed(town(CAT, 3), 0, 2, 7), 9, 9, 9, 0, 9, 9, 9, 9).of(0, 5));
        edge("P5 CHOICE: GAMBLER that WISHES 0 all over", 3, () -> prized(town(GAMBLER, 3, 3, 2, 4), 0, 0, 9, 9, 9).of(0, 5));
    }

    private static void gets() {
        edge("P5 GETS: alone the greatest PRIZE", 9999, () -> prized(town(CAT, 0), 9999).of(0, 6));
        edge("P5 GETS: the greatest PRIZE by eight, cut", 1249, () -> prized(eightAt(0), 9999).of(7, 6));
        edge("P5 GETS: less than there are heads", 0, () -> prized(eightAt(0), 7).of(0, 6));
        edge("P5 GETS: as much as there are heads", 1, () -> prized(eightAt(0), 8).of(0, 6));
        edge("P5 GETS: no PRIZE", 0, () -> prized(town(CAT, 0)).of(0, 6));
        edge("P5 GETS: by those who come, not by those SEEN", 4, () -> prized(town(PERSON, 0, 2), 0, 9).of(0, 6));
        edge("P5 GETS: those who leave do not count", 8, () -> {
            TwoTuesdays x = prized(town(PERSON, 0, 0), 8, 9);
            x.change(0, 0, CAT);
            return x.of(0, 6);
        });
    }

    private static void regrets() {
        edge("P5 REGRETS: as much elsewhere is none", 0, () -> prized(town(CAT, 0), 9, 9).of(0, 7));
        edge("P5 REGRETS: one more elsewhere", 1, () -> prized(town(CAT, 0), 9, 10).of(0, 7));
        edge("P5 REGRETS: elsewhere is cut, too", 0, () -> prized(town(CAT, 0, 1), 9, 19).of(0, 7));
        edge("P5 REGRETS: elsewhere by 1 more than are there", 1, () -> prized(town(CAT, 0, 1), 9, 20).of(0, 7));
        edge("P5 REGRETS: elsewhere by eight", 0, () -> prized(town(CAT, 0, 1, 1, 1, 1, 1, 1, 1), 9, 79).of(0, 7));
        edge("P5 REGRETS: elsewhere by eight, one more", 1, () -> prized(town(CAT, 0, 1, 1, 1, 1, 1, 1, 1), 9, 80).of(0, 7));
        edge("P5 REGRETS: by those who are there on THE SECOND, not on THE FIRST", 0, () -> town(new int[] {9, 17},
            new int[] {CAT, 0, 0, -1}, new int[] {PERSON, 2, 1, -1}).of(0, 7));
        edge("P5 REGRETS: those who leave are not there on THE SECOND", 1, () -> town(new int[] {9, 10},
            new int[] {CAT, 0, 0, -1}, new int[] {LOVER, 1, 1, 2}, new int[] {CAT, 2, 0, -1}).of(0, 7));
        for (int i = 0; i < 8; i++) {
            int plan = i;
            for (int k = 0; k < 8; k++) {
                int dear = k;
                edge("P5 REGRETS: any of the eight, " + k + " for " + i, i == k ? 0 : 1, () -> {
                    TwoTuesdays x = changed(town(CAT, plan), 0, 2, 0);
                    x.prize(dear, 11);
                    return x.of(0, 7);
                });
            }
        }
        edge("P5 REGRETS: nothing anywhere", 0, () -> prized(town(CAT, 3)).of(0, 7));
        edge("P5 REGRETS: it GETS nothing, 1 elsewhere", 1, () -> prized(town(CAT, 3), 1).of(0, 7));
        edge("P5 REGRETS: alone where it is it would have got all, but that is no other PLACE", 0,
            () -> prized(eightAt(0), 80).of(0, 7));
    }

    // ---- Tuesdays

    private static void tuesdays() {
        edge("P9 one TUESDAY", 1, () -> gone(new TwoTuesdays(), 1).now(0));
        edge("P9 60 TUESDAYS", 60, () -> gone(new TwoTuesdays(), 60).now(0));
        edge("P9 60 TUESDAYS bring 600", 600, () -> town(CAT, 0).go(60));
        edge("P9 a town of nobody", 0, () -> new TwoTuesdays().go(60));
        edge("P9 of eight GOODS of all together", 80, () -> town(CAT, 0, 1, 2, 3, 4, 5, 6, 7).go(1));
        edge("P9 PLAN becomes CHOICE", 1, () -> gone(prized(town(PERSON, 0), 0, 9), 1).of(0, 1));
        edge("P9 PLANS of all at once: they change places", 10, () -> {
            TwoTuesdays x = prized(town(LOVER, 0, 1));
            x.change(0, 3, 1);
            x.change(1, 3, 0);
            x.go(1);
            return x.of(0, 1) * 10 + x.of(1, 1);
        });
        edge("P9 what it GETS is what it was to get", 4, () -> gone(prized(town(PERSON, 0, 2), 0, 9), 1).of(1, 4));
        for (int kind : new int[] {CAT, SLEEPER}) {
            edge("P9 PLAN of " + NAMES[kind] + " stays", 3, () -> gone(prized(town(kind, 3, 3), 9, 9, 9, 0, 9), 60).of(0, 1));
        }
    }

    private static void goodsEnd() {
        int[][] ends = {{99998, 1, 99999}, {99998, 2, 99999}, {99999, 1, 99999}, {99999, 9999, 99999},
            {90000, 9999, 99999}, {90000, 9998, 99998}, {90001, 9999, 99999}, {99999, 0, 99999}, {0, 9999, 9999}};
        for (int[] end : ends) {
            String sentence = "GOODS " + end[0] + " and " + end[1] + " more";
            edge("P9 " + sentence, end[2], () -> gone(rich(end[0], end[1]), 1).of(0, 4));
            edge("P9 go() tells them: " + sentence, end[2], () -> rich(end[0], end[1]).go(1));
            edge("P11 " + sentence, end[2], () -> rich(end[0], end[1]).ahead(0, 1));
        }
        edge("P9 99999 is of each, not of all together", 8 * 99999, () -> eightRich().go(1));
        edge("P10 99999 is of each, not of all together", 8 * 99999, () -> eightRich().now(1));
        edge("P43 99999 is of each, not of all together", 8 * 99999, () -> eightRich().count(4));
        edge("P27 GOODS end at 99999 in weather, too", 8 * 99999, () -> eightRich().weather(20));
    }

    private static TwoTuesdays rich(int goods, int prize) {
        return changed(prized(town(CAT, 0), prize), 0, 4, goods);
    }

    private static TwoTuesdays eightRich() {
        TwoTuesdays x = eightAt(0);
        for (int i = 0; i < 8; i++) {
            x.change(i, 4, 99999);
        }
        return x;
    }

    private static void now() {
        edge("P10 nobody REGRETS", 0, () -> prized(eightAt(0), 80).now(2));
        edge("P10 all REGRET", 255, () -> prized(eightAt(0), 80, 11).now(2));
        edge("P10 the last alone REGRETS", 128, () -> prized(town(CAT, 0, 1, 2, 3, 4, 5, 6, 7), 9, 9, 9, 9, 9, 9, 9, 0).now(2));
        edge("P10 the first alone REGRETS", 1, () -> prized(town(CAT, 0, 1, 2, 3, 4, 5, 6, 7), 0, 9, 9, 9, 9, 9, 9, 9).now(2));
        edge("P10 all PLACES", 255, () -> town(CAT, 0, 1, 2, 3, 4, 5, 6, 7).now(3));
        edge("P10 one PLACE for all", 128, () -> eightAt(7).now(3));
        edge("P10 PLACES on THE SECOND, not on THE FIRST", 2, () -> prized(town(PERSON, 0, 2), 0, 9).now(3));
        edge("P10 nobody's CHOICE is another", 0, () -> eightAt(0).now(4));
        edge("P10 everybody's CHOICE is another", 255, () -> prized(town(PERSON, 0, 0, 0, 0, 0, 0, 0, 0), 0, 9).now(4));
        edge("P10 the last one's CHOICE is another", 128, () -> changed(prized(eightAt(0), 0, 9), 7, 0, PERSON).now(4));
        edge("P10 nobody is richest", -1, () -> new TwoTuesdays().now(5));
        edge("P10 one without GOODS is richest", 0, () -> town(CAT, 3).now(5));
        edge("P10 of equal ones the least is richest", 0, () -> eightAt(0).now(5));
        edge("P10 of two with more the least is richest", 2,
            () -> changed(changed(town(CAT, 0, 0, 0, 0), 3, 4, 7), 2, 4, 7).now(5));
        edge("P10 the last is richest", 7, () -> changed(eightAt(0), 7, 4, 1).now(5));
    }

    // ---- what will be

    /** Two gamblers who leave 0 for 1 and 1 for 0, together, for ever. */
    private static TwoTuesdays restless() {
        return prized(town(GAMBLER, 0, 0), 10, 10);
    }

    private static void aheadAndPlan() {
        edge("P11 behind 0: GOODS now", 7, () -> changed(town(CAT, 0), 0, 4, 7).ahead(0, 0));
        edge("P11 behind 1", 10, () -> town(CAT, 0).ahead(0, 1));
        edge("P11 behind 100", 1000, () -> town(CAT, 0).ahead(0, 100));
        edge("P11 of the last", 1000, () -> town(CAT, 0, 1, 2, 3, 4, 5, 6, 7).ahead(7, 100));
        edge("P12 behind 0: PLAN now", 0, () -> restless().plan(0, 0));
        edge("P12 behind 1", 1, () -> restless().plan(0, 1));
        edge("P12 behind 99", 1, () -> restless().plan(1, 99));
        edge("P12 behind 100", 0, () -> restless().plan(1, 100));
    }

    /** All rest behind 140 Tuesdays and not before. */
    private static TwoTuesdays lateRest() {
        return town(new int[] {49, 41, 8, 34, 44, 74, 58, 12}, new int[] {3, 7, 2, 6}, new int[] {2, 5, 7, 0},
            new int[] {2, 0, 5, -1}, new int[] {3, 5, 6, 5}, new int[] {2, 4, 1, 1}, new int[] {0, 2, 2, 3},
            new int[] {3, 4, 3, -1});
    }

    private static TwoTuesdays walked(TwoTuesdays x, int n) {
        for (int left = n; left > 0; left -= 60) {
            x.go(Math.min(60, left));
        }
        return x;
    }

    private static void rests() {
        edge("P13 nobody is there", 0, () -> new TwoTuesdays().rests());
        edge("P13 all rest now", 0, () -> town(CAT, 0, 7).rests());
        edge("P13 behind one", 1, () -> prized(town(PERSON, 0), 0, 9).rests());
        edge("P13 the last one does not rest yet", 1, () -> changed(prized(eightAt(0), 0, 9), 7, 0, PERSON).rests());
        for (int i = 0; i < 140; i++) {
            int n = i;
            edge("P13 walking there: not at rest behind " + i, 1, () -> walked(lateRest(), n).now(4) != 0 ? 1 : 0);
        }
        edge("P13 walking there: at rest behind 140", 0, () -> walked(lateRest(), 140).now(4));
        edge("P13 behind 99", 99, () -> walked(lateRest(), 41).rests());
        edge("P13 behind 100", 100, () -> walked(lateRest(), 40).rests());
        edge("P13 behind 101: NONE", NONE, () -> walked(lateRest(), 39).rests());
        edge("P13 never: NONE", NONE, () -> restless().rests());
    }

    /** From its second Tuesday on, PLANS come round every 100. */
    private static TwoTuesdays hundred() {
        return walked(town(new int[] {11, 12, 70, 21, 62, 34, 48, 0}, new int[] {2, 1, 3, 4}, new int[] {4, 3, 2, 5},
            new int[] {2, 0, 5, 0}, new int[] {1, 0, 6, 5}, new int[] {1, 7, 7, 2}, new int[] {3, 6, 3, 2}), 2);
    }

    /** From its fourth Tuesday on, PLANS come round every 101. */
    private static TwoTuesdays hundredAndOne() {
        return walked(town(new int[] {57, 16, 58, 34, 69, 2, 58, 23}, new int[] {2, 2, 3, 4}, new int[] {2, 1, 3, 0},
            new int[] {2, 3, 6, 1}, new int[] {1, 7, 5, 5}, new int[] {4, 2, 7, 3}, new int[] {4, 0, 2, 2}), 4);
    }

    /** PLANS of all as one number. */
    private static long plans(TwoTuesdays x) {
        long plans = 0;
        for (int i = 0; i < x.count(1); i++) {
            plans = plans * 8 + x.of(i, 1);
        }
        return plans;
    }

    private static void round() {
        edge("P14 nobody is there: behind 1", 1, () -> new TwoTuesdays().round());
        edge("P14 eight are there: behind 1", 1, () -> eightAt(7).round());
        edge("P14 the last of eight alone does not come back", NONE,
            () -> changed(prized(eightAt(0), 0, 9), 7, 0, PERSON).round());
        edge("P14 all rest: behind 1", 1, () -> town(CAT, 0, 7).round());
        edge("P14 there and back: behind 2", 2, () -> restless().round());
        edge("P14 one of two never comes back", NONE, () -> prized(town(PERSON, 3, 0), 0, 9, 0, 9).round());
        for (int i = 1; i <= 100; i++) {
            int n = i;
            edge("P14 walking there: round behind 100, " + i, i == 100 ? 1 : 0,
                () -> plans(walked(hundred(), n)) == plans(hundred()) ? 1 : 0);
            edge("P14 walking there: not round before 101, " + i, 0,
                () -> plans(walked(hundredAndOne(), n)) == plans(hundredAndOne()) ? 1 : 0);
        }
        edge("P14 walking there: round behind 101", 1, () -> plans(walked(hundredAndOne(), 101)) == plans(hundredAndOne()) ? 1 : 0);
        edge("P14 behind 100", 100, () -> hundred().round());
        edge("P14 behind 101: NONE", NONE, () -> hundredAndOne().round());
    }

    /** 7 and 5 have one and the same CHOICE behind 101 Tuesdays and not before. */
    private static TwoTuesdays lateMeeting() {
        return town(new int[] {4, 67, 33, 73, 48, 41, 25, 67}, new int[] {2, 5, 3, 6}, new int[] {3, 0, 2, 4},
            new int[] {4, 5, 6, 5}, new int[] {4, 4, 7, 6}, new int[] {3, 6, 7, 7}, new int[] {3, 6, 5, 3},
            new int[] {1, 7, 2, 0}, new int[] {0, 0, 3, 1});
    }

    private static void meet() {
        edge("P15 now", 0, () -> town(CAT, 3, 3).meet(0, 1));
        edge("P15 now, coming from two PLANS", 0, () -> prized(town(PERSON, 0, 2), 0, 9).meet(0, 1));
        edge("P15 from one PLAN to two", NONE, () -> changed(prized(town(PERSON, 0, 0), 0, 9), 1, 2, 0).meet(0, 1));
        edge("P15 behind one", 1, () -> prized(town(PERSON, 0, 2), 0, 1, 9).meet(0, 1));
        edge("P15 never", NONE, () -> town(CAT, 3, 4).meet(0, 1));
        edge("P15 the last two of eight", 0, () -> eightAt(7).meet(7, 6));
        edge("P15 the first and the last of eight", NONE, () -> lastAt(5).meet(0, 7));
        for (int i = 0; i <= 101; i++) {
            int n = i;
            edge("P15 walking there: they meet behind 101, " + i, i == 101 ? 1 : 0, () -> {
                TwoTuesdays x = walked(lateMeeting(), n);
                return x.of(7, 5) == x.of(5, 5) ? 1 : 0;
            });
        }
        edge("P15 behind 100", 100, () -> walked(lateMeeting(), 1).meet(7, 5));
        edge("P15 behind 101: NONE", NONE, () -> lateMeeting().meet(7, 5));
    }

    /** At 0 more come on the hundredth SECOND than on any before it. */
    private static TwoTuesdays lateCrowd() {
        return town(new int[] {61, 13, 21, 53, 7, 87, 83, 79}, new int[] {2, 3, 7, 5}, new int[] {3, 2, 3, 0},
            new int[] {3, 3, 3, 1}, new int[] {0, 4, 4, 5}, new int[] {3, 4, 3, 2}, new int[] {1, 1, 5, 1});
    }

    /** At 0 fewer come on the hundredth SECOND than on any before it. */
    private static TwoTuesdays lateFlight() {
        return town(new int[] {59, 20, 10, 35, 64, 75, 83, 27}, new int[] {2, 1, 6, 6}, new int[] {3, 5, 7, 5},
            new int[] {3, 2, 5, 0}, new int[] {1, 1, 3, -1}, new int[] {0, 4, 3, -1}, new int[] {4, 2, 3, 2},
            new int[] {1, 5, 7, -1});
    }

    private static void crowd() {
        edge("P16 of one TUESDAY: THE SECOND now", 1, () -> prized(town(PERSON, 0), 0, 9).crowd(1, 1, 1));
        edge("P16 of one TUESDAY: not THE FIRST", 0, () -> prized(town(PERSON, 0), 0, 9).crowd(0, 1, 1));
        edge("P16 of one TUESDAY: not the one behind it", 0, () -> restless().crowd(0, 1, 1));
        edge("P16 of two it is", 2, () -> restless().crowd(0, 2, 1));
        edge("P16 fewest: all eight", 8, () -> eightAt(7).crowd(7, 100, 0));
        edge("P16 most: all eight", 8, () -> eightAt(7).crowd(7, 100, 1));
        edge("P16 fewest: nobody", 0, () -> eightAt(7).crowd(0, 100, 0));
        edge("P16 most: nobody", 0, () -> new TwoTuesdays().crowd(0, 100, 1));
        for (int i = 0; i < 100; i++) {
            int n = i;
            edge("P16 walking there: three come behind 99, " + i, i == 99 ? 1 : 0,
                () -> Integer.bitCount(walked(lateCrowd(), n).place(0, 2)) > 2 ? 1 : 0);
            edge("P16 walking there: nobody comes behind 99, " + i, i == 99 ? 1 : 0,
                () -> walked(lateFlight(), n).place(0, 2) == 0 ? 1 : 0);
        }
        edge("P16 most of 99", 2, () -> lateCrowd().crowd(0, 99, 1));
        edge("P16 most of 100", 3, () -> lateCrowd().crowd(0, 100, 1));
        edge("P16 fewest of 99", 1, () -> lateFlight().crowd(0, 99, 0));
        edge("P16 fewest of 100", 0, () -> lateFlight().crowd(0, 100, 0));
    }

    // ---- which plan, as what

    private static void planFor() {
        edge("P17 behind 0 all do: the least", 0, () -> town(PERSON, 5).planFor(0, 0));
        edge("P17 the last PLACE", 7, () -> prized(changed(town(PERSON, 0), 0, 2, 0), 1, 2, 3, 4, 5, 6, 7, 8).planFor(0, 1));
        edge("P17 the first PLACE", 0, () -> prized(changed(town(PERSON, 7), 0, 2, 0), 8, 7, 6, 5, 4, 3, 2, 1).planFor(0, 1));
        edge("P17 of two that do the least", 3, () -> prized(town(PERSON, 0), 0, 0, 0, 0, 9).planFor(0, 1));
        // At 0 it has 9 each time, and so 99999 just behind 60; at 1 it has 10, and that earlier.
        edge("P17 behind 60", 0, () -> changed(prized(changed(town(PERSON, 0), 0, 2, 0), 9, 10), 0, 4, 99459).planFor(0, 60));
        edge("P17 behind 59", 1, () -> changed(prized(changed(town(PERSON, 0), 0, 2, 0), 9, 10), 0, 4, 99459).planFor(0, 59));
        edge("P17 of the last one", 3, () -> {
            TwoTuesdays x = prized(town(CAT, 1, 1, 1, 1, 1, 1, 1, 1), 0, 0, 0, 9);
            return x.planFor(7, 60);
        });
    }

    /** 0 is at 1 with 10; at 2 are 12, which all see who are at 3, too: only a cat or a sleeper stays. */
    private static TwoTuesdays temptation() {
        return town(new int[] {0, 10, 12}, new int[] {PERSON, 1, 1, -1}, new int[] {PERSON, 3, 1, -1},
            new int[] {PERSON, 3, 1, -1});
    }

    /** As a PERSON 0 goes to 2 once, for 9; as a GAMBLER it stays at 1 for 10 each time. */
    private static TwoTuesdays oneSlip(int goods) {
        return changed(town(new int[] {0, 10, 27}, new int[] {PERSON, 1, 1, -1}, new int[] {CAT, 2, 0, -1},
            new int[] {LOVER, 3, 1, 1}), 0, 4, goods);
    }

    private static void kindFor() {
        edge("P18 behind 0 all do: the least", 0, () -> town(SLEEPER, 5).kindFor(0, 0));
        edge("P18 all do: the least", 0, () -> town(SLEEPER, 5).kindFor(0, 60));
        edge("P18 CAT, though SLEEPER would do", CAT, () -> temptation().kindFor(0, 1));
        edge("P18 CAT, for one who is a SLEEPER", CAT, () -> changed(temptation(), 0, 0, SLEEPER).kindFor(0, 1));
        edge("P18 GAMBLER", GAMBLER, () -> oneSlip(0).kindFor(0, 1));
        // As a PERSON it has 599 behind 60 and 589 behind 59.
        edge("P18 behind 59", GAMBLER, () -> oneSlip(99400).kindFor(0, 59));
        edge("P18 behind 60", PERSON, () -> oneSlip(99400).kindFor(0, 60));
    }

    private static void looksFor() {
        edge("P19 behind 0 all do: the least", 0, () -> town(PERSON, 5).looksFor(0, 0));
        edge("P19 looking nowhere", 0, () -> town(CAT, 5).looksFor(0, 60));
        edge("P19 from end to end", 7, () -> prized(town(PERSON, 0), 0, 0, 0, 0, 0, 0, 0, 9).looksFor(0, 60));
        edge("P19 just so far", 2, () -> prized(town(PERSON, 5), 0, 0, 0, 9).looksFor(0, 1));
        edge("P19 behind 60", 0, () -> changed(prized(town(PERSON, 0), 9, 10), 0, 4, 99459).looksFor(0, 60));
        edge("P19 behind 59", 1, () -> changed(prized(town(PERSON, 0), 9, 10), 0, 4, 99459).looksFor(0, 59));
    }

    /**
     * The lover 0 stays with 200 each time. If it loved the cat it would go to 1, for 150, and from
     * there it would see 260, and have them each time.
     */
    private static TwoTuesdays ledOn(int goods) {
        return changed(town(new int[] {200, 300, 260}, new int[] {LOVER, 0, 1, -1}, new int[] {CAT, 1, 0, -1}), 0, 4, goods);
    }

    private static void loveFor() {
        edge("P20 behind 0 all do: nobody", -1, () -> ledOn(0).loveFor(0, 0));
        edge("P20 there is only itself", -1, () -> town(LOVER, 5).loveFor(0, 60));
        edge("P20 to no avail: nobody", -1, () -> changed(ledOn(0), 0, 3, 1).loveFor(0, 1));
        edge("P20 behind 60", 1, () -> ledOn(0).loveFor(0, 60));
        edge("P20 behind 60 either way 99999", -1, () -> ledOn(87999).loveFor(0, 60));
        edge("P20 behind 59 not yet", 1, () -> ledOn(87999).loveFor(0, 59));
        edge("P20 the last of eight", 7, () -> {
            TwoTuesdays x = ledOn(0);
            x.change(1, 1, 6);
            for (int i = 2; i < 7; i++) {
                x.person(CAT, 6);
            }
            x.person(CAT, 1);
            return x.loveFor(0, 60);
        });
        edge("P20 the first, for the last", 0, () -> {
            TwoTuesdays x = prized(town(CAT, 1, 0), 200, 300, 260);
            x.change(1, 0, LOVER);
            return x.loveFor(1, 60);
        });
        edge("P20 of two the least", 1, () -> {
            TwoTuesdays x = ledOn(0);
            x.person(CAT, 1);
            prized(x, 201, 600, 310);
            return x.loveFor(0, 60);
        });
    }

    private static void prizeFor() {
        edge("P21 none need come", 0, () -> town(PERSON, 0).prizeFor(7, 0));
        edge("P21 none need come, nobody is there", 0, () -> new TwoTuesdays().prizeFor(7, 0));
        edge("P21 cats come for nothing", 0, () -> eightAt(7).prizeFor(7, 8));
        edge("P21 more than k will do", 0, () -> eightAt(7).prizeFor(7, 3));
        edge("P21 for 1", 1, () -> prized(town(PERSON, 0)).prizeFor(1, 1));
        edge("P21 for 199", 199, () -> prized(town(PERSON, 0), 198).prizeFor(1, 1));
        edge("P21 for 200", 200, () -> prized(town(PERSON, 0), 199).prizeFor(1, 1));
        edge("P21 not for 200", NONE, () -> prized(town(PERSON, 0), 200).prizeFor(1, 1));
        edge("P21 all eight", 1, () -> prized(town(PERSON, 0, 0, 0, 0, 2, 2, 2, 2)).prizeFor(1, 8));
        edge("P21 what PRIZE is now does not count", 1, () -> prized(town(PERSON, 0), 0, 9999).prizeFor(1, 1));
    }

    // ---- told otherwise

    private static void tell() {
        edge("P22 nobody need be told", 0, () -> eightAt(7).tell(7, 8));
        edge("P22 k 0", 0, () -> eightAt(7).tell(0, 0));
        edge("P22 k 0, nobody is there", 0, () -> new TwoTuesdays().tell(0, 0));
        edge("P22 all must be told", 255, () -> eightAt(7).tell(0, 8));
        edge("P22 of eight the least one", 1, () -> eightAt(7).tell(0, 1));
        edge("P22 of eight the least seven", 127, () -> eightAt(7).tell(0, 7));
        edge("P22 more than k will do", 1, () -> {
            TwoTuesdays x = town(LOVER, 0, 0, 0);
            x.change(1, 3, 0);
            x.change(2, 3, 0);
            x.change(1, 2, 7);
            x.change(2, 2, 7);
            x.change(0, 0, CAT);
            return x.tell(7, 1);
        });
        edge("P22 one, the last, is fewer than two", 128, () -> {
            TwoTuesdays x = town(CAT, 0, 0, 0, 0, 0, 0, 0, 0);
            x.change(1, 0, LOVER);
            x.change(1, 2, 7);
            x.change(1, 3, 7);
            return x.tell(7, 2);
        });
        edge("P22 told what is its PLAN already", 0, () -> town(CAT, 3).tell(3, 1));
        edge("P22 one is there, one is told", 2, () -> town(CAT, 3, 4).tell(3, 2));
        edge("P22 not by all", NONE, () -> eightPersons().tell(4, 8));
    }

    private static void away() {
        edge("P23 one alone", 0, () -> town(CAT, 3).away());
        edge("P23 of eight equal ones the least", 0, () -> eightAt(0).away());
        edge("P23 the last", 7, () -> prized(town(CAT, 0, 1, 2, 3, 4, 5, 6, 7), 9, 9, 9, 9, 9, 9, 9, 8).away());
        edge("P23 GOODS of the others: those from before, too", 1, () -> changed(town(CAT, 0, 1), 0, 4, 5).away());
        edge("P23 GOODS of the others end at 99999", 0, () -> changed(changed(town(CAT, 0, 1), 0, 4, 99999), 1, 4, 99995).away());
        // 1 goes on from 1 to the cat at 2, and the GAMBLER would come to where it was: 92 by 30 and 62.
        edge("P23 it isn't SEEN", 1, () -> changed(town(new int[] {2, 30, 62}, new int[] {GAMBLER, 0, 1, -1},
            new int[] {PERSON, 1, 1, -1}, new int[] {CAT, 2, 0, -1}), 1, 4, 5).away());
        edge("P23 its PLAN is nowhere: the LOVER goes for 90", 1, () -> town(new int[] {0, 0, 90},
            new int[] {LOVER, 1, 1, 1}, new int[] {CAT, 0, 0, -1}, new int[] {CAT, 1, 0, -1}).away());
        edge("P23 it isn't there on THE SECOND", 1, () -> prized(town(CAT, 1, 0, 0), 9, 4).away());
        edge("P23 on the next TUESDAY alone", 0, () -> prized(town(PERSON, 0, 7), 0, 5, 9, 0, 0, 0, 0, 5).away());
    }

    private static void swapFor() {
        edge("P24 just two", 1, () -> town(CAT, 0, 1).swapFor(40));
        edge("P24 behind 0: the least pair", 1, () -> town(CAT, 0, 1, 2, 3, 4, 5, 6, 7).swapFor(0));
        edge("P24 the last pair", 8 * 6 + 7, () -> {
            TwoTuesdays x = prized(town(CAT, 0, 0, 0, 0, 0, 0, 2, 6), 0, 0, 0, 0, 0, 0, 0, 90);
            x.change(6, 0, PERSON);
            return x.swapFor(1);
        });
        edge("P24 of two pairs the least", 8 * 5 + 7, () -> {
            TwoTuesdays x = prized(town(CAT, 0, 0, 0, 0, 0, 2, 2, 6), 0, 0, 0, 0, 0, 0, 0, 90);
            x.change(5, 0, PERSON);
            x.change(6, 0, PERSON);
            return x.swapFor(1);
        });
        // 0 may have 780 more: at 1 it has them behind 39; else the others go on having 20 there.
        edge("P24 behind 39", 1, () -> changed(prized(town(CAT, 0, 1, 2), 10, 20, 10), 0, 4, 99219).swapFor(39));
        edge("P24 behind 40", 2, () -> changed(prized(town(CAT, 0, 1, 2), 10, 20, 10), 0, 4, 99219).swapFor(40));
    }

    // ---- what was told

    /** A sheet of 40 numbers, any but the last. */
    private static TwoTuesdays lastOfForty(int number) {
        TwoTuesdays x = prized(town(CAT, 0), 10, 10, 10, 11, 10, 10, 10, 10);
        x.sheet(0, 16, 40);
        for (int i = 0; i < 39; i++) {
            x.write(0, i, -1);
        }
        x.write(0, 39, number);
        return x;
    }

    private static void fits() {
        edge("P25 a sheet of none: all PLANS", 255, () -> numbers(town(CAT, 3), 8).fits(0, 0));
        edge("P25 any: all PLANS", 255, () -> numbers(town(CAT, 3), 8, -1, -1).fits(0, 0));
        edge("P25 255 of 8 bits is any", 255, () -> numbers(town(CAT, 3), 8, 255).fits(0, 0));
        edge("P25 65535 of 16 bits is any", 255, () -> numbers(town(CAT, 3), 16, 65535).fits(0, 0));
        edge("P25 255 of 16 bits is 255", 255, () -> numbers(changed(town(CAT, 3), 0, 4, 255), 16, 255).fits(0, 0));
        edge("P25 255 of 16 bits is not any", 0, () -> numbers(town(CAT, 3), 16, 255).fits(0, 0));
        edge("P25 -2 is nothing", 0, () -> numbers(town(CAT, 3), 8, -2).fits(0, 0));
        edge("P25 the first number is GOODS now", 255, () -> numbers(changed(town(CAT, 3), 0, 4, 99999), 32, 99999).fits(0, 0));
        edge("P25 not so now", 0, () -> numbers(changed(town(CAT, 3), 0, 4, 99999), 32, 99998).fits(0, 0));
        edge("P25 GOODS end at 99999", 255, () -> numbers(changed(town(CAT, 3), 0, 4, 99998), 32, -1, 99999, 99999).fits(0, 0));
        edge("P25 the first PLACE", 1, () -> numbers(prized(town(CAT, 3), 55), 16, 0, 55).fits(0, 0));
        edge("P25 the last PLACE", 128, () -> numbers(prized(town(CAT, 3), 0, 0, 0, 0, 0, 0, 0, 55), 16, 0, 55).fits(0, 0));
        edge("P25 none", 0, () -> numbers(town(CAT, 3), 16, 0, 11).fits(0, 0));
        edge("P25 forty numbers: the last fits", 8, () -> lastOfForty(39 * 11).fits(0, 0));
        edge("P25 forty numbers: the last fits the others", 255 - 8, () -> lastOfForty(39 * 10).fits(0, 0));
        edge("P25 forty numbers: the last does not fit", 0, () -> lastOfForty(39 * 10 + 1).fits(0, 0));
        edge("P25 of the last one", 255, () -> numbers(town(CAT, 0, 1, 2, 3, 4, 5, 6, 7), 8, 0).fits(0, 7));
    }

    private static void kinds() {
        edge("P26 a sheet of none: all KINDS", 127, () -> numbers(town(CAT, 3), 8).kinds(0, 0));
        edge("P26 any: all KINDS", 127, () -> numbers(town(CAT, 3), 8, -1, -1).kinds(0, 0));
        edge("P26 those who stay", 32 + 64, () -> numbers(prized(town(PERSON, 0), 9, 10), 8, 0, 9).kinds(0, 0));
        edge("P26 those who go", 31, () -> numbers(prized(town(SLEEPER, 0), 9, 10), 8, 0, 10).kinds(0, 0));
        edge("P26 PERSON alone", 1, () -> numbers(changed(oneSlip(0), 0, 3, 1), 8, 0, 9, 19).kinds(0, 0));
        edge("P26 none", 0, () -> numbers(town(CAT, 3), 16, 0, 11).kinds(0, 0));
        edge("P26 not so now", 0, () -> numbers(town(CAT, 3), 16, 1).kinds(0, 0));
        edge("P26 forty numbers", 127, () -> lastOfForty(39 * 10).kinds(0, 0));
        edge("P26 forty numbers: the last does not fit", 0, () -> lastOfForty(39 * 11).kinds(0, 0));
    }

    // ---- weather

    private static void weather() {
        // What z becomes by one draw and by two, and what these give, by hand.
        int[][] draws = {{1, 6, 32, -1770082073}, {0, 0, 38, -740551042}, {MAX, 1, 36, -1858503659},
            {MIN, 0, 30, 1406932606}, {-1, 1, 28, 288979989}};
        for (int[] draw : draws) {
            edge("P27 PRIZE drawn by z " + draw[0], draw[2], () -> {
                TwoTuesdays x = seeded(draw[0]);
                x.weather(1);
                return x.place(draw[1], 0);
            });
            edge("P27 no other PRIZE, by z " + draw[0], 70 + draw[2], () -> {
                TwoTuesdays x = seeded(draw[0]);
                x.weather(1);
                int all = 0;
                for (int place = 0; place < 8; place++) {
                    all += x.place(place, 0);
                }
                return all;
            });
            edge("P27 z wraps around, from " + draw[0], draw[3], () -> {
                TwoTuesdays x = seeded(draw[0]);
                x.weather(1);
                return x.count(6);
            });
        }
        edge("P27 the draws come ahead of the TUESDAY", 32, () -> town(CAT, 6).weather(1));
        edge("P27 a TUESDAY each time, ahead of the next draws", 10 + 3, () -> town(CAT, 4).weather(2));
        edge("P27 of all together then", 102 + 95, () -> town(CAT, 0, 1, 2, 3, 4, 5, 6, 7).weather(2));
        edge("P27 once: one TUESDAY", 1, () -> {
            TwoTuesdays x = new TwoTuesdays();
            x.weather(1);
            return x.now(0);
        });
        edge("P27 20 times: 20 TUESDAYS", 20, () -> {
            TwoTuesdays x = new TwoTuesdays();
            x.weather(20);
            return x.now(0);
        });
        edge("P27 20 times: 40 draws", 0, () -> {
            TwoTuesdays x = new TwoTuesdays();
            x.weather(20);
            int z = 1;
            for (int i = 0; i < 40; i++) {
                z = z * 1103515245 + 12345;
            }
            return x.count(6) - z;
        });
        edge("P27 nobody is there", 0, () -> new TwoTuesdays().weather(20));
        edge("P27 go() draws nothing", 1, () -> gone(new TwoTuesdays(), 60).count(6));
    }

    private static void odds() {
        int[][] plans = {{}, {0}, {0, 1}, {0, 1, 2}, {0, 1, 2, 3}, {0, 1, 2, 3, 4}, {0, 1, 2, 3, 4, 5},
            {0, 1, 2, 3, 4, 5, 6}, {0, 1, 2, 3, 4, 5, 6, 7}};
        int[][] lowest = {{1, 1}, {7, 8}, {3, 4}, {5, 8}, {1, 2}, {3, 8}, {1, 4}, {1, 8}, {0, 1}};
        for (int i = 0; i < 9; i++) {
            int[] there = plans[i];
            for (int k = 0; k < 2; k++) {
                int what = k;
                long base = lowest[i][k];
                long power = 1;
                for (int n = 1; n < 20; n++) {
                    power *= base;
                }
                edge("P28 no draw, " + i + " PLACES taken", 1, () -> town(CAT, there).odds(0, what));
                edge("P28 one draw, " + i + " PLACES taken", base, () -> town(CAT, there).odds(1, what));
                edge("P28 19 draws, " + i + " PLACES taken", power, () -> town(CAT, there).odds(19, what));
                edge("P28 20 draws, " + i + " PLACES taken", power * base, () -> town(CAT, there).odds(20, what));
            }
        }
        edge("P28 the greatest above: 7 of 8, 20 times", 79792266297612001L, () -> town(CAT, 0).odds(20, 0));
        edge("P28 the greatest below", 1152921504606846976L, () -> town(CAT, 0).odds(20, 1));
        edge("P28 nobody on THE SECOND, though on THE FIRST", 7, () -> prized(town(PERSON, 0, 2), 0, 9).odds(1, 0));
        edge("P28 nothing is drawn", 1, () -> {
            TwoTuesdays x = new TwoTuesdays();
            x.odds(20, 0);
            return x.count(6);
        });
    }

    private static void seed() {
        for (int z : new int[] {MIN, -1, 0, 1, MAX}) {
            edge("P29 z becomes " + z, z, () -> seeded(z).seed(5));
            edge("P29 what it was, for " + z, 1, () -> new TwoTuesdays().seed(z));
        }
    }

    // ---- texts

    private static void tape() {
        for (int i = 1; i <= 4; i++) {
            int n = i;
            edge("P30 the first bytes, " + i, i, () -> new TwoTuesdays().feed(MIN, n));
            edge("P30 THE TAPE is full by " + i, 120, () -> typed(new TwoTuesdays(), repeat("x", 120 - n)).feed(-1, n));
            edge("P30 one too many by " + i, FULL, () -> typed(new TwoTuesdays(), repeat("x", 121 - n)).feed(-1, n));
            edge("P30 then it has what it had, by " + i, 121 - i, () -> {
                TwoTuesdays x = typed(new TwoTuesdays(), repeat("x", 121 - n));
                x.feed(-1, n);
                return x.wipe();
            });
        }
        edge("P30 the lowest byte alone", 1, () -> fed("", 0x78787863, 1, "at"));
        edge("P30 the two lowest bytes, the highest first", 1, () -> fed("c", 0x78786174, 2, ""));
        edge("P30 the three lowest bytes, the highest first", 1, () -> fed("", 0x78636174, 3, ""));
        edge("P30 the four bytes, the highest first", 1, () -> fed("", 0x63617420, 4, ""));
        edge("P30 behind what it has", 1, () -> fed("ca", 't', 1, ""));
        edge("P30 a byte above 127, the highest of a number below 0", -1, () -> fed("", 0xE4636174, 4, ""));
        edge("P30 a byte above 127, the lowest", -5, () -> fed("", 0x636174, 3, ";" + (char) 0xFF));
        edge("P31 nothing to wipe", 0, () -> new TwoTuesdays().wipe());
        edge("P31 all to wipe", 120, () -> typed(new TwoTuesdays(), repeat("x", 120)).wipe());
        edge("P31 THE TAPE is empty then", 0, () -> {
            TwoTuesdays x = typed(new TwoTuesdays(), repeat("x", 120));
            x.wipe();
            return x.count(5);
        });
        edge("P31 and has room for all again", 4, () -> {
            TwoTuesdays x = typed(new TwoTuesdays(), repeat("x", 120));
            x.wipe();
            return x.feed(0, 4);
        });
        edge("P31 what was wiped is not read", 2, () -> {
            TwoTuesdays x = typed(new TwoTuesdays(), "cat;cat;cat");
            x.wipe();
            return typed(x, "cat;cat").text();
        });
    }

    /** The answer of text() for what stands before, a number fed, and what stands behind. */
    private static int fed(String before, int bytes, int n, String behind) {
        TwoTuesdays x = typed(new TwoTuesdays(), before);
        x.feed(bytes, n);
        return typed(x, behind).text();
    }

    private static void itemsOfTexts() {
        for (int i = 0; i < 7; i++) {
            int kind = i;
            text("one ITEM", NAMES[i], 1);
            edge("P32 KIND of " + NAMES[i], i, () -> read(NAMES[kind]).of(0, 0));
            edge("P32 PLAN of " + NAMES[i] + ": 0 without", 0, () -> read(NAMES[kind]).of(0, 1));
            edge("P32 LOOKS of " + NAMES[i] + ": 1 without", 1, () -> read(NAMES[kind]).of(0, 2));
            edge("P32 LOVE of " + NAMES[i] + ": nobody without", -1, () -> read(NAMES[kind]).of(0, 3));
            edge("P32 GOODS of " + NAMES[i] + ": 0", 0, () -> read(NAMES[kind]).of(0, 4));
        }
        text("looks without at", "cat looks 2", 1);
        text("loves without looks", "cat;cat at 1 loves 0", 2);
        text("all that one may tell", "cat;cat at 1 looks 2 loves 0", 2);
        text("the most ITEMS", repeat("prize0 0;", 12) + "prize0 0", 13);
        text("eight new ones", repeat("cat;", 7) + "cat", 8);
        text("eight new ones and a PRIZE", repeat("cat;", 8) + "prize 0 0", 9);
        edge("P32 item by item: the later PRIZE", 6, () -> read("prize 2 5;prize 2 6").place(2, 0));
        edge("P32 THE TAPE is empty then", 0, () -> read("cat").wipe());
        edge("P32 THE TAPE is empty behind a FAULT, too", 0, () -> read("dog").wipe());
        edge("P32 a FAULT is no finding", 0, () -> read("dog").status(-1));
        edge("P32 nothing changes at a FAULT: people", 0, () -> read("cat;prize 0 5;cat x").count(1));
        edge("P32 nothing changes at a FAULT: PRIZE", 10, () -> read("cat;prize 0 5;cat x").place(0, 0));
        edge("P32 nothing changes at a FAULT behind all bytes", 10, () -> read("prize 0 5;").place(0, 0));
        edge("P32 one text behind another", 1, () -> typed(read("cat"), "cat loves 0").text());
        edge("P32 a text behind a FAULT", 1, () -> typed(read("dog"), "cat").text());
        edge("P32 the second has number 1", 6, () -> read("cat;cat at 6").of(1, 1));
    }

    private static void numbersOfTexts() {
        edge("P32 at 0", 0, () -> read("cat at 0").of(0, 1));
        edge("P32 at 7", 7, () -> read("cat at 7").of(0, 1));
        fault("at 8: its own", "cat at 8", 7);
        edge("P32 looks 0", 0, () -> read("cat looks 0").of(0, 2));
        edge("P32 looks 7", 7, () -> read("cat looks 7").of(0, 2));
        fault("looks 8: its own", "cat looks 8", 10);
        edge("P32 PRIZE 0 of PLACE 0", 0, () -> read("prize 0 0").place(0, 0));
        edge("P32 PRIZE 9999 of PLACE 7", 9999, () -> read("prize 7 9999").place(7, 0));
        fault("prize of PLACE 8: its own", "prize 8 0", 6);
        fault("prize of PLACE 9999: its own", "prize 9999 0", 6);
        fault("PRIZE 10000: its own", "prize 7 10000", 8);
        fault("PRIZE 99999: its own", "prize 7 99999", 8);
        fault("PRIZE 2147483648: its own", "prize 7 2147483648", 8);
        fault("PRIZE 4294967295: its own", "prize 7 4294967295", 8);
        fault("PRIZE 4294967296, which is no 0", "prize 7 4294967296", 8);
        fault("PRIZE 4294967306, which is no 10", "prize 7 4294967306", 8);
        fault("PRIZE 18446744073709551616, which is no 0", "prize 7 18446744073709551616", 8);
        fault("PLACE 4294967296, which is no 0", "cat at 4294967296", 7);
        fault("LOOKS 4294967296, which is no 0", "cat looks 4294967296", 10);
        fault("LOVE 4294967296, which is no 0", "cat;cat loves 4294967296", 14);
        fault("a NUMBER of 112 digits", "prize 7 " + repeat("9", 112), 8);
        edge("P32 a NUMBER of 113 digits, 7 by its worth", 7, () -> read("cat at " + repeat("0", 112) + "7").of(0, 1));
        fault("below 0", "cat at -1", 7);
    }

    private static void tokens() {
        text("no blanks where none need be", "cat at3looks4;prize5 6;cat loves0", 3);
        text("blanks all over", "   cat   at   3   looks   4   ;   prize   5   6   ;   cat   loves   0   ", 3);
        fault("WORDS are as long as can be", "catat 1", 0);
        fault("WORDS are as long as can be, behind one", "cat atlooks 1", 4);
        fault("NUMBERS are as long as can be", "prize 75", 6);
        fault("blanks end a NUMBER", "prize 7 5 5", 10);
        fault("a blank ends a WORD", "c at", 0);
        text("a NUMBER ends where a WORD begins", "cat at 1looks 2", 1);
        text("; ends a WORD", "cat;cat", 2);
        text("; ends a NUMBER", "cat at 1;cat", 2);
        fault("` stands before a", "cat`", 3);
        fault("{ stands behind z", "cat{", 3);
        fault("/ stands before 0", "cat at /", 7);
        fault(": stands behind 9", "cat at 1:", 8);
        fault(": is no ;", "cat:cat", 3);
        fault("< is no ;", "cat<cat", 3);
        fault("A is no letter", "Cat", 0);
        fault("Z is no letter", "cat Z", 4);
        fault("a tab is no blank", "cat\t", 3);
        fault("a line's end is no blank", "cat\n", 3);
        fault("31 is no blank", "cat" + (char) 31, 3);
        fault("33 is no blank", "cat!", 3);
        fault("byte 0", "" + (char) 0, 0);
        fault("byte 127", "cat" + (char) 127, 3);
        fault("byte 128", "cat" + (char) 128, 3);
        fault("byte 160 is no blank", "cat" + (char) 160, 3);
        fault("byte 187 is no ;", "cat" + (char) 187, 3);
        fault("byte 225 is no a", "c" + (char) 225 + "t", 0);
        fault("byte 255", "cat;" + (char) 255, 4);
    }

    /** Each WORD with one letter less, more or another is another WORD: a FAULT at its begin. */
    private static void otherWords() {
        String[] behind = {"", "", "", "", "", "", "", " 0 0", " 1", " 1", " 0"};
        String[] before = {"", "", "", "", "", "", "", "", "cat ", "cat ", "cat;cat "};
        String[] words = {"person", "gambler", "lover", "jealous", "thief", "cat", "sleeper", "prize", "at", "looks", "loves"};
        for (int i = 0; i < words.length; i++) {
            String word = words[i];
            text("the WORD itself", before[i] + word + behind[i], before[i].contains(";") ? 2 : 1);
            for (int k = 0; k < word.length(); k++) {
                String head = before[i] + word.substring(0, k);
                String tail = word.substring(k + 1) + behind[i];
                char letter = word.charAt(k);
                fault("another letter", head + (char) (letter + 1) + tail, before[i].length());
                fault("a great letter", head + (char) (letter - 32) + tail, before[i].length());
                fault("a letter less", head + tail, before[i].length());
                fault("a letter twice", head + letter + letter + tail, before[i].length());
            }
        }
    }

    /** What stood on THE TAPE before, or stands behind its end, is not read. */
    private static void tapesReadAgain() {
        edge("P32 a WORD ends with THE TAPE, though it went on before", 1, () -> typed(wiped("cats"), "cat").text());
        edge("P32 a WORD ends with THE TAPE, though a text went on before", 1, () -> typed(read("cats"), "cat").text());
        edge("P32 a NUMBER ends with THE TAPE, though it went on before", 1, () -> typed(wiped("prize 3 456"), "prize 3 4").text());
        edge("P32 that is its worth", 4, () -> {
            TwoTuesdays x = typed(wiped("prize 3 456"), "prize 3 4");
            x.text();
            return x.place(3, 0);
        });
        edge("P32 a text ends with THE TAPE, though it went on before", 1, () -> typed(wiped("cat;cat"), "cat").text());
        edge("P32 nothing stands there though it did before", -1, () -> wiped("cat;cat").text());
        text("a WORD ends with 120 bytes", repeat(" ", 117) + "cat", 1);
        text("a NUMBER ends with 120 bytes", repeat(" ", 112) + "cat at 7", 1);
        text("blanks end with 120 bytes", "cat" + repeat(" ", 117), 1);
        fault("; ends with 120 bytes", "cat" + repeat(" ", 116) + ";", 120);
    }

    private static TwoTuesdays wiped(String text) {
        TwoTuesdays x = typed(new TwoTuesdays(), text);
        x.wipe();
        return x;
    }

    private static void textsThatEndTooEarly() {
        String[] texts = {"", " ", repeat(" ", 120), "cat;", "cat ; ", "cat at", "cat at ", "cat looks", "cat at 7 looks ",
            "cat;cat loves", "cat;cat at 1 looks 1 loves  ", "prize", "prize ", "prize 7", "prize 7  ", "prize 7 1;",
            "cat;" + repeat(" ", 116), "prize" + repeat(" ", 115), repeat("cat;", 8), repeat("prize0 0;", 13) + "   "};
        for (String text : texts) {
            fault("it ends too early", text, text.length());
        }
    }

    private static void tokensThatCannotStand() {
        String[] first = {"7", ";", "at 1", "looks 1", "loves 0", "dog", "prizes 1 1", "ca", "catt", "!", "10000"};
        for (String text : first) {
            fault("it can't stand first", text, 0);
            fault("it can't stand first, behind a blank", " " + text, 1);
            fault("it can't stand behind ;", "prize 0 0;" + text, 10);
        }
        for (String text : new String[] {"7", "cat", "prize 0 0", "dog", "!", "10000", "cat;cat"}) {
            fault("it can't stand behind the WORD of a KIND", "thief " + text, 6);
        }
        String[] noNumber = {"at", "cat", ";", "!", "looks 1", "8", "10000"};
        for (String text : noNumber) {
            fault("it can't stand behind at", "thief at " + text, 9);
            fault("it can't stand behind looks", "thief looks " + text, 12);
            fault("it can't stand behind loves", "thief;thief loves " + text, 18);
            fault("it can't stand behind prize", "prize " + text, 6);
        }
        for (String text : new String[] {"at", "cat", ";", "!", "10000"}) {
            fault("it can't stand behind the PLACE of a PRIZE", "prize 7 " + text, 8);
        }
        for (String text : new String[] {"at 1", "1", "cat", "!", "prize", "10000"}) {
            fault("it can't stand behind at and its NUMBER", "cat at 1 " + text, 9);
            fault("it can't stand behind looks and its NUMBER", "cat looks 1 " + text, 12);
            fault("it can't stand behind loves and its NUMBER", "cat;cat loves 0 " + text, 16);
            fault("it can't stand behind a PRIZE", "prize 7 9 " + text, 10);
        }
        fault("looks behind looks", "cat looks 1 looks 1", 12);
        fault("loves behind loves", "cat;cat loves 0 loves 0", 16);
        fault("looks behind loves", "cat;cat loves 0 looks 0", 16);
        fault("the last byte of 120", "cat" + repeat(" ", 116) + "!", 119);
        fault("the first FAULT alone counts", "cat at 8 at 9 dog", 7);
    }

    private static void lovesOfTexts() {
        fault("nobody is there already", "cat loves 0", 10);
        fault("not itself", "cat;cat loves 1", 14);
        fault("not one who comes later", "cat loves 1;cat", 10);
        edge("P32 LOVE of the first", 0, () -> read("cat;cat;cat loves 0").of(2, 3));
        edge("P32 LOVE of the one before", 1, () -> read("cat;cat;cat loves 1").of(2, 3));
        edge("P32 LOVE of one who was there ahead of the text", 0, () -> {
            TwoTuesdays x = typed(town(CAT, 3), "cat loves 0");
            x.text();
            return x.of(1, 3);
        });
        edge("P32 not itself, as number 1", -11, () -> typed(town(CAT, 3), "cat loves 1").text());
        edge("P32 LOVE of the seventh, of the eighth", 6, () -> {
            TwoTuesdays x = typed(town(CAT, 0, 1, 2, 3, 4, 5, 6), "cat loves 6");
            x.text();
            return x.of(7, 3);
        });
        edge("P32 not itself, as number 7", -11, () -> typed(town(CAT, 0, 1, 2, 3, 4, 5, 6), "cat loves 7").text());
    }

    private static void ninthOfTexts() {
        fault("the WORD of a 9th one: its own", repeat("cat;", 8) + "cat", 32);
        fault("the WORD of a 9th one, whatever stands behind it", repeat("cat;", 8) + "cat at 9", 32);
        fault("no WORD of a KIND comes first", repeat("cat;", 8) + "dog", 32);
        for (int i = 0; i < 7; i++) {
            String name = NAMES[i];
            edge("P32 a 9th one, " + name, -2, () -> typed(eightAt(0), " " + name).text());
            edge("P32 an 8th one, " + name, 1, () -> typed(town(CAT, 0, 0, 0, 0, 0, 0, 0), name).text());
        }
        edge("P32 with eight there a PRIZE may be told", 1, () -> typed(eightAt(0), "prize 0 1").text());
        edge("P32 at a 9th one nothing changes", 10, () -> {
            TwoTuesdays x = typed(eightAt(0), "prize 0 1;cat");
            x.text();
            return x.place(0, 0);
        });
    }

    // ---- spots, sheets

    private static TwoTuesdays holding(int spot, int person) {
        TwoTuesdays x = town(CAT, 0, 1, 2, 3, 4, 5, 6, 7);
        x.hold(spot, person);
        return x;
    }

    private static void spots() {
        for (int i = 0; i < 10; i++) {
            int spot = i;
            edge("P33 SPOT " + i + " holds the first", 0, () -> holding(spot, 0).as(spot, CAT));
            edge("P33 SPOT " + i + " holds the last", 7, () -> holding(spot, 7).as(spot, PERSON));
            edge("P33 SPOT " + i + " alone", 1, () -> holding(spot, 7).count(7));
        }
        edge("P33 hold tells 1", 1, () -> town(CAT, 0).hold(0, 0));
        edge("P33 nothing, of a SPOT that holds nothing: 1", 1, () -> new TwoTuesdays().hold(9, -1));
        edge("P33 nothing any more", MISSING, () -> {
            TwoTuesdays x = holding(3, 2);
            x.hold(3, -1);
            return x.as(3, CAT);
        });
        edge("P33 one in all SPOTS", 10, () -> {
            TwoTuesdays x = town(CAT, 0);
            for (int spot = 0; spot < 10; spot++) {
                x.hold(spot, 0);
            }
            return x.count(7);
        });
        edge("P34 as what it has become", 0, () -> changed(holding(3, 0), 0, 0, THIEF).as(3, LOVER));
    }

    private static void sheets() {
        for (int i = 0; i < 4; i++) {
            int s = i;
            for (int bits : new int[] {8, 16, 32}) {
                edge("P35 SHEET " + i + " of none", 0, () -> new TwoTuesdays().sheet(s, bits, 0));
                edge("P35 SHEET " + i + " of none is not MISSING", 0, () -> sheeted(s, bits, 0).load(s));
                edge("P35 SHEET " + i + " of 40", 40, () -> new TwoTuesdays().sheet(s, bits, 40));
                edge("P36 the last of 40", 1, () -> sheeted(s, bits, 40).write(s, 39, 1));
                edge("P36 one behind the last of 40", BEYOND, () -> sheeted(s, bits, 40).write(s, 40, 1));
                edge("P36 the first of one", 1, () -> sheeted(s, bits, 1).write(s, 0, 1));
                edge("P36 the first of none", BEYOND, () -> sheeted(s, bits, 0).write(s, 0, 1));
                edge("P35 of no other SHEET", MISSING, () -> sheeted(s, bits, 40).load((s + 1) % 4));
            }
            edge("P35 bits 0: 0", 0, () -> sheeted(s, 8, 40).sheet(s, 0, 40));
            edge("P35 bits 0, n 0: 0", 0, () -> sheeted(s, 8, 40).sheet(s, 0, 0));
            edge("P35 bits 0: it is MISSING", MISSING, () -> {
                TwoTuesdays x = sheeted(s, 8, 40);
                x.sheet(s, 0, 40);
                return x.load(s);
            });
            edge("P35 bits 0, MISSING already: 0", 0, () -> new TwoTuesdays().sheet(s, 0, 7));
        }
        edge("P35 all 0 at first", 0, () -> loadedOf(sheeted(0, 8, 8)));
        edge("P35 all 0 again", 0, () -> {
            TwoTuesdays x = numbers(new TwoTuesdays(), 8, 9, 9, 9, 9, 9, 9, 9, 9);
            x.sheet(0, 8, 8);
            return loadedOf(x);
        });
        edge("P35 all 0 again, when it was shorter in between", 0, () -> {
            TwoTuesdays x = numbers(new TwoTuesdays(), 8, 9, 9, 9, 9, 9, 9, 9, 9);
            x.sheet(0, 8, 1);
            x.sheet(0, 8, 8);
            return loadedOf(x);
        });
        edge("P35 all 0 again, when it was MISSING in between", 0, () -> {
            TwoTuesdays x = numbers(new TwoTuesdays(), 8, 9, 9, 9, 9, 9, 9, 9, 9);
            x.sheet(0, 0, 8);
            x.sheet(0, 8, 8);
            return loadedOf(x);
        });
        for (int n = 1; n < 8; n++) {
            int least = n;
            edge("P35 all 0 again, of " + n, 22222222 % (long) Math.pow(10, 8 - n), () -> {
                TwoTuesdays x = numbers(prized(new TwoTuesdays(), 2, 2, 2, 2, 2, 2, 2, 2), 8, 9, 9, 9, 9, 9, 9, 9, 9);
                x.sheet(0, 8, least);
                return loadedOf(x);
            });
        }
        edge("P36 no other number changes", 900, () -> {
            TwoTuesdays x = sheeted(0, 8, 8);
            x.write(0, 5, 9);
            return loadedOf(x);
        });
    }

    private static TwoTuesdays sheeted(int s, int bits, int n) {
        TwoTuesdays x = new TwoTuesdays();
        x.sheet(s, bits, n);
        return x;
    }

    /** PRIZES behind load(0), all in one decimal number, of the first place first. */
    private static long loadedOf(TwoTuesdays x) {
        x.load(0);
        long all = 0;
        for (int place = 0; place < 8; place++) {
            all = all * 10 + x.place(place, 0);
        }
        return all;
    }

    private static void bits() {
        // Bits, what is written, and the PRIZE that it is; -1: it is below 0.
        int[][] written = {{8, 0, 0}, {8, 127, 127}, {8, 128, -1}, {8, 255, -1}, {8, -1, -1}, {8, -128, -1}, {8, -129, 127},
            {8, 256, 0}, {8, 257, 1}, {8, MIN, 0}, {8, MAX, -1}, {16, 9999, 9999}, {16, 255, 255}, {16, 256, 256},
            {16, 32768, -1}, {16, 65535, -1}, {16, 65536, 0}, {16, 75535, 9999}, {16, -65535, 1}, {16, MIN, 0}, {16, MAX, -1},
            {32, 9999, 9999}, {32, -1, -1}, {32, MIN, -1}};
        for (int[] one : written) {
            edge("P36 " + one[1] + " of " + one[0] + " bits", one[2], () -> {
                TwoTuesdays x = numbers(new TwoTuesdays(), one[0], one[1]);
                return x.load(0) == 1 ? x.place(0, 0) : -1;
            });
        }
        // All PLANS fit if the number is GOODS now.
        edge("P36 32767 of 16 bits stays", 255, () -> numbers(changed(town(CAT, 0), 0, 4, 32767), 16, 32767).fits(0, 0));
        edge("P36 32768 of 32 bits stays", 255, () -> numbers(changed(town(CAT, 0), 0, 4, 32768), 32, 32768).fits(0, 0));
        edge("P36 65536 of 32 bits stays", 255, () -> numbers(changed(town(CAT, 0), 0, 4, 65536), 32, 65536).fits(0, 0));
    }

    private static void copies() {
        edge("P37 as they all were, up", 11234000, () -> copied(0, 1, 4));
        edge("P37 as they all were, down", 23455000, () -> copied(1, 0, 4));
        edge("P37 just to the end", 12312000, () -> copied(0, 3, 2));
        edge("P37 upon themselves", 12345000, () -> copied(0, 0, 5));
        edge("P37 none", 12345000, () -> copied(0, 4, 0));
        edge("P37 the last to the first", 52345000, () -> copied(4, 0, 1));
        edge("P37 none of none", 0, () -> {
            TwoTuesdays x = sheeted(0, 8, 0);
            x.sheet(3, 8, 0);
            return x.copy(0, 0, 3, 0, 0);
        });
        edge("P37 none from the end", 0, () -> sheeted(0, 8, 5).copy(0, 5, 0, 5, 0));
        edge("P37 all 40", 40, () -> sheeted(0, 8, 40).copy(0, 0, 0, 0, 40));
        edge("P37 41 of 40", BEYOND, () -> sheeted(0, 8, 40).copy(0, 0, 0, 0, 41));
        edge("P37 one behind the end", BEYOND, () -> sheeted(0, 8, 5).copy(0, 5, 0, 0, 1));
        edge("P37 to one behind the end", BEYOND, () -> sheeted(0, 8, 5).copy(0, 0, 0, 5, 1));
        edge("P37 so far as the sum would wrap around", BEYOND, () -> sheeted(0, 8, 5).copy(0, MAX, 0, 0, MAX));
        edge("P37 to so far as the sum would wrap around", BEYOND, () -> sheeted(0, 8, 5).copy(0, 0, 0, MAX, MAX));
        edge("P37 the one sheet stays as it was", 12345000, () -> {
            TwoTuesdays x = five();
            x.sheet(3, 8, 5);
            x.copy(0, 0, 3, 1, 4);
            return loadedOf(x);
        });
        edge("P37 the numbers of the other one that are not reached stay", 91239000, () -> {
            TwoTuesdays x = five();
            x.sheet(3, 8, 5);
            for (int i = 0; i < 5; i++) {
                x.write(3, i, 9);
            }
            x.copy(0, 0, 3, 1, 3);
            x.copy(3, 0, 0, 0, 5);
            return loadedOf(x);
        });
    }

    private static TwoTuesdays five() {
        return numbers(prized(new TwoTuesdays()), 8, 1, 2, 3, 4, 5);
    }

    private static long copied(int from, int to, int n) {
        TwoTuesdays x = five();
        x.copy(0, from, 0, to, n);
        return loadedOf(x);
    }

    private static void loads() {
        edge("P38 none came of none", 0, () -> sheeted(0, 8, 0).load(0));
        edge("P38 one", 1, () -> sheeted(0, 8, 1).load(0));
        edge("P38 eight, for which there are PLACES", 8, () -> sheeted(0, 8, 8).load(0));
        edge("P38 for a ninth there is no PLACE", 8, () -> sheeted(0, 8, 9).load(0));
        edge("P38 of 40 eight", 8, () -> sheeted(0, 8, 40).load(0));
        edge("P38 0 and 9999 come", 2, () -> numbers(new TwoTuesdays(), 16, 0, 9999).load(0));
        edge("P38 it ends at -1", 1, () -> numbers(new TwoTuesdays(), 16, 5, -1, 5).load(0));
        edge("P38 it ends at 10000", 1, () -> numbers(new TwoTuesdays(), 16, 5, 10000, 5).load(0));
        edge("P38 it ends at the first", 0, () -> numbers(new TwoTuesdays(), 16, -1, 5).load(0));
        edge("P38 it ends at the last", 7, () -> numbers(new TwoTuesdays(), 16, 1, 1, 1, 1, 1, 1, 1, -1).load(0));
        edge("P38 9999 is the PRIZE", 9999, () -> {
            TwoTuesdays x = numbers(new TwoTuesdays(), 16, 0, 9999);
            x.load(0);
            return x.place(1, 0);
        });
        edge("P38 behind its end nothing comes", 57000000, () -> loadedOf(numbers(prized(new TwoTuesdays()), 16, 5, 7, -1, 5)));
        edge("P38 what it does not reach stays", 59999999, () -> loadedOf(numbers(
            prized(new TwoTuesdays(), 9, 9, 9, 9, 9, 9, 9, 9), 16, 5)));
    }

    private static void judges() {
        int[] plans = {0, 1, 2, 3, 4, 5, 6, 7};
        edge("P39 all eight are so", 0, () -> numbers(town(CAT, plans), 8, plans).judge(0));
        for (int i = 0; i < 8; i++) {
            int[] told = plans.clone();
            told[i] = (i + 1) % 8;
            edge("P39 the first that isn't so, " + i, 1 + i, () -> numbers(town(CAT, plans), 8, told).judge(0));
            int[] more = told.clone();
            more[7] = 99;
            edge("P39 the first, not the last that isn't so, " + i, 1 + i, () -> numbers(town(CAT, plans), 8, more).judge(0));
        }
        edge("P39 none told of eight", 0, () -> numbers(town(CAT, plans), 8).judge(0));
        edge("P39 none told of nobody", 0, () -> numbers(new TwoTuesdays(), 8).judge(0));
        edge("P39 fewer told than there are", 0, () -> numbers(town(CAT, plans), 8, 0, 1).judge(0));
        edge("P39 one told of nobody", 1, () -> numbers(new TwoTuesdays(), 8, 0).judge(0));
        edge("P39 a ninth told of eight", 9, () -> numbers(eightAt(0), 8, 0, 0, 0, 0, 0, 0, 0, 0, 0).judge(0));
        edge("P39 a third told of two", 3, () -> numbers(town(CAT, 0, 0), 8, 0, 0, 0).judge(0));
        edge("P39 -1 is no CHOICE", 1, () -> numbers(town(CAT, 0), 8, -1).judge(0));
        edge("P39 8 is no CHOICE", 1, () -> numbers(town(CAT, 0), 8, 8).judge(0));
        edge("P39 256 of 8 bits is 0", 0, () -> numbers(town(CAT, 0), 8, 256).judge(0));
        edge("P39 256 of 16 bits is not", 1, () -> numbers(town(CAT, 0), 16, 256).judge(0));
        edge("P39 CHOICE, not PLAN", 0, () -> numbers(prized(town(PERSON, 0), 0, 9), 8, 1).judge(0));
        edge("P39 PLAN isn't it", 1, () -> numbers(prized(town(PERSON, 0), 0, 9), 8, 0).judge(0));
    }

    // ---- images

    private static TwoTuesdays imaged(TwoTuesdays x) {
        x.image();
        return x;
    }

    private static TwoTuesdays undone(TwoTuesdays x) {
        x.undo();
        return x;
    }

    private static TwoTuesdays tornUp(TwoTuesdays x) {
        x.tear();
        return x;
    }

    private static void images() {
        edge("P40 image tells 1", 1, () -> new TwoTuesdays().image());
        edge("P40 image tells 1 again", 1, () -> imaged(new TwoTuesdays()).image());
        edge("P41 undo tells TUESDAY: 0", 0, () -> gone(imaged(new TwoTuesdays()), 5).undo());
        edge("P41 undo tells TUESDAY: 5", 5, () -> imaged(gone(new TwoTuesdays(), 5)).undo());
        edge("P41 what was kept stays", 5, () -> undone(imaged(gone(new TwoTuesdays(), 5))).undo());
        edge("P41 what was kept stays, whatever comes then", 5, () -> gone(undone(imaged(gone(new TwoTuesdays(), 5))), 9).undo());
        edge("P41 the latest", 7, () -> gone(imaged(gone(imaged(gone(new TwoTuesdays(), 5)), 2)), 9).undo());
        edge("P41 to nobody", 0, () -> {
            TwoTuesdays x = imaged(new TwoTuesdays());
            x.person(CAT, 0);
            return undone(x).count(1);
        });
        edge("P41 to all eight", 8, () -> undone(imaged(eightAt(0))).count(1));
        edge("P41 THE TAPE stays, longer", 3, () -> undone(typed(imaged(new TwoTuesdays()), "cat")).count(5));
        edge("P41 THE TAPE stays, empty", 0, () -> {
            TwoTuesdays x = imaged(typed(new TwoTuesdays(), "cat"));
            x.wipe();
            return undone(x).count(5);
        });
        edge("P41 SHEETS stay there", 2, () -> undone(numbers(imaged(new TwoTuesdays()), 8, 1, 2)).load(0));
        edge("P41 SHEETS stay MISSING", MISSING, () -> {
            TwoTuesdays x = imaged(numbers(new TwoTuesdays(), 8, 1, 2));
            x.sheet(0, 0, 0);
            return undone(x).load(0);
        });
        edge("P41 SPOTS come back", 7, () -> {
            TwoTuesdays x = imaged(holding(9, 7));
            x.hold(9, -1);
            return undone(x).as(9, CAT);
        });
        edge("P41 SPOTS become empty again", MISSING, () -> {
            TwoTuesdays x = imaged(holding(9, 7));
            x.hold(0, 0);
            return undone(x).as(0, CAT);
        });
        edge("P41 a SPOT with one who is not there any more", MISSING, () -> {
            TwoTuesdays x = imaged(new TwoTuesdays());
            x.person(CAT, 0);
            x.hold(0, 0);
            return undone(x).as(0, CAT);
        });
        edge("P41 z comes back", 1, () -> {
            TwoTuesdays x = imaged(new TwoTuesdays());
            x.weather(3);
            return undone(x).count(6);
        });
        edge("P41 PRIZE comes back", 10, () -> undone(prized(imaged(new TwoTuesdays()))).place(7, 0));
        int[] traits = {CAT, 7, 1, -1, 0};
        for (int i = 0; i < 5; i++) {
            int what = i;
            edge("P41 of the last one, " + i, traits[i], () -> undone(changed(imaged(holding(0, 0)), 7, what, 3)).of(7, what));
        }
        edge("P42 nothing was kept", 0, () -> new TwoTuesdays().tear());
        edge("P42 something was", 1, () -> imaged(new TwoTuesdays()).tear());
        edge("P42 of two images nothing stays", 0, () -> tornUp(imaged(imaged(new TwoTuesdays()))).tear());
        edge("P42 something was, behind undo()", 1, () -> undone(imaged(new TwoTuesdays())).tear());
        edge("P42 nothing is kept then", NONE, () -> tornUp(imaged(new TwoTuesdays())).undo());
        edge("P42 an image anew", 3, () -> imaged(gone(tornUp(imaged(new TwoTuesdays())), 3)).undo());
        edge("P42 the town stays", 3, () -> tornUp(imaged(gone(new TwoTuesdays(), 3))).count(0));
    }

    private static void counts() {
        edge("P43 TUESDAY", 60, () -> gone(new TwoTuesdays(), 60).count(0));
        edge("P43 PEOPLE: eight", 8, () -> eightAt(0).count(1));
        edge("P43 nobody REGRETS", 0, () -> prized(eightAt(0), 80).count(2));
        edge("P43 all REGRET", 8, () -> prized(eightAt(0), 80, 11).count(2));
        edge("P43 one PLACE", 1, () -> eightAt(0).count(3));
        edge("P43 all PLACES", 8, () -> town(CAT, 0, 1, 2, 3, 4, 5, 6, 7).count(3));
        edge("P43 PLACES on THE SECOND, not on THE FIRST", 1, () -> prized(town(PERSON, 0, 2), 0, 9).count(3));
        edge("P43 no GOODS", 0, () -> eightAt(0).count(4));
        edge("P43 one byte", 1, () -> typed(new TwoTuesdays(), "x").count(5));
        edge("P43 120 bytes", 120, () -> typed(new TwoTuesdays(), repeat("x", 120)).count(5));
        edge("P43 no SPOT", 0, () -> holding(0, -1).count(7));
    }

    private static void status() {
        edge("P44 another one is not yet counted when it is asked", BEYOND, () -> new TwoTuesdays().status(7));
        edge("P44 but from then on", 1, () -> {
            TwoTuesdays x = new TwoTuesdays();
            x.status(7);
            return x.status(0);
        });
        edge("P44 below -1, too", 2, () -> {
            TwoTuesdays x = new TwoTuesdays();
            x.status(-2);
            x.status(MIN);
            return x.status(-1);
        });
        edge("P44 undo() takes none back", 2, () -> {
            TwoTuesdays x = imaged(new TwoTuesdays());
            x.now(6);
            x.load(0);
            return undone(x).status(-1);
        });
        edge("P44 tear() takes none back", 1, () -> {
            TwoTuesdays x = imaged(new TwoTuesdays());
            x.now(6);
            return tornUp(x).status(0);
        });
        edge("P44 to ask is no finding", 0, () -> {
            TwoTuesdays x = new TwoTuesdays();
            for (int which = -1; which < 7; which++) {
                x.status(which);
            }
            return x.status(-1);
        });
        edge("P44 -1 of those who are richest is no finding", 0, () -> {
            TwoTuesdays x = new TwoTuesdays();
            x.now(5);
            return x.status(-1);
        });
    }
}
