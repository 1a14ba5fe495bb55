/** Each promise of the document by hand: ordinary inputs, the edges that it names, wrong inputs. */
public final class PromiseTests {
    private static final int BEYOND = -1000001;
    private static final int FULL = -1000002;
    private static final int KIND = -1000003;
    private static final int NONE = -1000004;
    private static final int STATE = -1000005;
    private static final int MISSING = -1000006;
    private static final int SIZE = -1000007;

    private static final int PERSON = 0;
    private static final int GAMBLER = 1;
    private static final int LOVER = 2;
    private static final int JEALOUS = 3;
    private static final int THIEF = 4;
    private static final int CAT = 5;
    private static final int SLEEPER = 6;

    private static final int MIN = Integer.MIN_VALUE;
    private static final int MAX = Integer.MAX_VALUE;

    private static int checks = 0;
    private static int wrong = 0;

    private static void due(String call, long got, long want) {
        checks++;
        if (got != want) {
            wrong++;
            System.out.println(call + " answered " + got + ", due is " + want);
        }
    }

    /** One of the kind at each of the plans. */
    private static TwoTuesdays townOf(int kind, int... plans) {
        TwoTuesdays x = new TwoTuesdays();
        for (int plan : plans) {
            x.person(kind, plan);
        }
        return x;
    }

    private static void prizes(TwoTuesdays x, int... prizes) {
        for (int place = 0; place < prizes.length; place++) {
            x.prize(place, prizes[place]);
        }
    }

    private static void numbers(TwoTuesdays x, int s, int bits, int... numbers) {
        x.sheet(s, bits, numbers.length);
        for (int i = 0; i < numbers.length; i++) {
            x.write(s, i, numbers[i]);
        }
    }

    private static void type(TwoTuesdays x, String text) {
        for (int i = 0; i < text.length(); i++) {
            x.feed(text.charAt(i), 1);
        }
    }

    private static int read(TwoTuesdays x, String text) {
        type(x, text);
        return x.text();
    }

    private static void dueText(String text, int want) {
        due("text of '" + text + "'", read(new TwoTuesdays(), text), want);
    }

    public static void main(String[] args) {
        newObject();
        places();
        people();
        changes();
        seeing();
        wishing();
        choosing();
        secondAndRegret();
        tuesdays();
        theLastTuesday();
        nowTells();
        whatWillBe();
        restsRoundMeet();
        edgesOfAHundred();
        crowds();
        bestFor();
        prizeForAndTell();
        awayAndSwap();
        whatWasTold();
        weatherAndOdds();
        tape();
        textsThatStand();
        textsWithFaults();
        spots();
        sheets();
        sheetsUsed();
        images();
        countsAndStatus();
        if (wrong != 0) {
            System.out.println(wrong + " of " + checks + " answers are not as due");
            System.exit(1);
        }
        System.out.println("all " + checks + " answers are as due");
    }

    private static void newObject() {
        TwoTuesdays x = new TwoTuesdays();
        for (int place = 0; place < 8; place++) {
            due("P1 prize at first", x.place(place, 0), 10);
            due("P1 nobody there on the first", x.place(place, 1), 0);
            due("P1 nobody there on the second", x.place(place, 2), 0);
        }
        int[] counts = {0, 0, 0, 0, 0, 0, 1, 0};
        for (int what = 0; what < counts.length; what++) {
            due("P1 count " + what, x.count(what), counts[what]);
        }
        for (int spot = 0; spot < 10; spot++) {
            due("P1 a spot holds nothing", x.as(spot, 0), MISSING);
        }
        for (int s = 0; s < 4; s++) {
            due("P1 a sheet is missing", x.load(s), MISSING);
        }
        due("P1 no image", x.undo(), NONE);
        due("P1 no image to tear", x.tear(), 0);
        due("P1 status", new TwoTuesdays().status(-1), 0);
    }

    private static void places() {
        TwoTuesdays x = new TwoTuesdays();
        due("P2 prize", x.prize(0, 9999), 10);
        due("P2 prize again", x.prize(0, 0), 9999);
        due("P2 prize of the last place", x.prize(7, 1), 10);
        due("P2 what it became", x.place(7, 0), 1);
        due("P2 place -1", x.prize(-1, 5), BEYOND);
        due("P2 place 8", x.prize(8, 5), BEYOND);
        due("P2 v -1", x.prize(3, -1), BEYOND);
        due("P2 v 10000", x.prize(3, 10000), BEYOND);
        due("P2 nothing changed", x.place(3, 0), 10);
        due("P2 extremes", x.prize(MIN, MAX), BEYOND);

        // 0 and 1 stand at 2 and see 3 empty; both go there: its prize of 12 is more than 10 by 2.
        TwoTuesdays y = townOf(PERSON, 2, 2, 7);
        prizes(y, 10, 10, 10, 12, 10, 10, 10, 10);
        due("P3 prize", y.place(3, 0), 12);
        due("P3 first", y.place(2, 1), 3);
        due("P3 first elsewhere", y.place(7, 1), 4);
        due("P3 second, left", y.place(2, 2), 0);
        due("P3 second, come", y.place(3, 2), 3);
        due("P3 place -1", y.place(-1, 0), BEYOND);
        due("P3 place 8", y.place(8, 0), BEYOND);
        due("P3 what -1", y.place(0, -1), BEYOND);
        due("P3 what 3", y.place(0, 3), BEYOND);
    }

    private static void people() {
        TwoTuesdays x = new TwoTuesdays();
        due("P4 kind -1", x.person(-1, 0), BEYOND);
        due("P4 kind 7", x.person(7, 0), BEYOND);
        due("P4 plan -1", x.person(0, -1), BEYOND);
        due("P4 plan 8", x.person(0, 8), BEYOND);
        for (int i = 0; i < 8; i++) {
            due("P4 number", x.person(i % 7, 7 - i), i);
        }
        due("P4 a ninth", x.person(0, 0), FULL);
        due("P4 beyond comes ahead of full", x.person(0, 8), BEYOND);
        due("P4 still eight", x.count(1), 8);
        for (int i = 0; i < 8; i++) {
            int[] traits = {i % 7, 7 - i, 1, -1, 0};
            for (int what = 0; what < traits.length; what++) {
                due("P5 of " + i + ", " + what, x.of(i, what), traits[what]);
            }
        }
        due("P5 what -1", x.of(0, -1), BEYOND);
        due("P5 what 8", x.of(0, 8), BEYOND);
        due("P5 person -1", x.of(-1, 0), BEYOND);
        due("P5 person 8", x.of(8, 0), BEYOND);
        due("P5 not there yet", townOf(CAT, 1).of(1, 0), BEYOND);
    }

    private static void changes() {
        TwoTuesdays x = townOf(PERSON, 4, 4, 4);
        due("P6 kind", x.change(1, 0, 6), 0);
        due("P6 plan", x.change(1, 1, 7), 4);
        due("P6 looks", x.change(1, 2, 0), 1);
        due("P6 love", x.change(1, 3, 2), -1);
        due("P6 goods", x.change(1, 4, 99999), 0);
        due("P6 kind again", x.change(1, 0, 0), 6);
        due("P6 plan again", x.change(1, 1, 0), 7);
        due("P6 looks again", x.change(1, 2, 7), 0);
        due("P6 love again", x.change(1, 3, -1), 2);
        due("P6 goods again", x.change(1, 4, 0), 99999);
        int[][] wrongs = {{0, -1}, {0, 7}, {1, -1}, {1, 8}, {2, -1}, {2, 8}, {3, -2}, {3, 3}, {3, 1},
            {4, -1}, {4, 100000}, {-1, 0}, {5, 0}, {6, 0}, {7, 0}, {MIN, 0}, {MAX, 0}};
        for (int[] w : wrongs) {
            due("P6 change(1, " + w[0] + ", " + w[1] + ")", x.change(1, w[0], w[1]), BEYOND);
        }
        due("P6 nothing changed: love", x.of(1, 3), -1);
        due("P6 nothing changed: looks", x.of(1, 2), 7);
        due("P6 nobody", x.change(3, 0, 0), BEYOND);
        due("P6 person -1", x.change(-1, 0, 0), BEYOND);
        due("P6 the others stay", x.of(0, 1) + x.of(2, 1), 8);
        due("P6 a love with the least number", x.change(1, 3, 0), -1);
    }

    private static void seeing() {
        TwoTuesdays x = townOf(PERSON, 3, 3, 3, 4, 5);
        due("P7 at its plan, without itself", x.seen(0, 3), 2);
        due("P7 beside", x.seen(0, 4), 1);
        due("P7 the other side", x.seen(0, 2), 0);
        due("P7 too far", x.seen(0, 5), NONE);
        due("P7 too far the other way", x.seen(0, 1), NONE);
        x.change(0, 2, 0);
        due("P7 looks nowhere else", x.seen(0, 4), NONE);
        due("P7 its own place still", x.seen(0, 3), 2);
        x.change(0, 2, 7);
        due("P7 looks all over", x.seen(0, 7), 0);
        due("P7 looks at 5", x.seen(0, 5), 1);
        due("P7 place -1", x.seen(0, -1), BEYOND);
        due("P7 place 8", x.seen(0, 8), BEYOND);
        due("P7 nobody", x.seen(5, 3), BEYOND);
        due("P7 person -1", x.seen(-1, 3), BEYOND);
        due("P8 place -1", x.wishes(0, -1), BEYOND);
        due("P8 place 8", x.wishes(0, 8), BEYOND);
        due("P8 nobody", x.wishes(5, 3), BEYOND);
        due("P8 person -1", x.wishes(-1, 3), BEYOND);
        due("P8 too far", x.wishes(4, 3), NONE);
    }

    private static void wishing() {
        // The first one's kind changes; it is at 3 with one other, two are at 4, nobody is at 2.
        TwoTuesdays x = townOf(PERSON, 3, 3, 4, 4);
        prizes(x, 10, 10, 20, 31, 47);
        x.change(0, 3, 2);
        int[][] wishes = {{20, 15, 15}, {20, 0, 0}, {20, 15, 115}, {20, 10, 105}, {20, 17, 119},
            {0, 1, 0}, {0, 0, 0}};
        for (int kind = 0; kind < 7; kind++) {
            x.change(0, 0, kind);
            for (int i = 0; i < 3; i++) {
                due("P8 kind " + kind + " at " + (2 + i), x.wishes(0, 2 + i), wishes[kind][i]);
            }
        }
        x.change(1, 1, 7);
        due("P8 a sleeper alone at its plan", x.wishes(0, 3), 31);
        x.change(0, 3, -1);
        x.change(0, 0, LOVER);
        due("P8 a lover of nobody", x.wishes(0, 4), 15);
        x.change(0, 0, JEALOUS);
        x.prize(4, 0);
        due("P8 below 0", x.wishes(0, 4), -10);
        x.change(0, 0, PERSON);
        x.change(0, 3, 2);
        due("P8 a person does not mind its love", x.wishes(0, 4), 0);
    }

    private static void choosing() {
        TwoTuesdays x = townOf(PERSON, 3);
        x.change(0, 2, 7);
        due("P5 of equal ones the plan", x.of(0, 5), 3);
        x.prize(6, 11);
        due("P5 the most", x.of(0, 5), 6);
        x.prize(1, 11);
        due("P5 of equal ones the least", x.of(0, 5), 1);
        x.change(0, 2, 1);
        due("P5 no further than it looks", x.of(0, 5), 3);
        x.prize(4, 11);
        due("P5 as far as it looks", x.of(0, 5), 4);
        x.prize(2, 11);
        due("P5 the least beside it", x.of(0, 5), 2);
        x.prize(3, 11);
        due("P5 the plan among three", x.of(0, 5), 3);

        TwoTuesdays y = townOf(JEALOUS, 7, 7, 7, 7);
        prizes(y, 0, 0, 0, 0, 0, 0, 0, 0);
        due("P5 the least evil", y.of(0, 5), 6);
        TwoTuesdays c = townOf(CAT, 0);
        c.prize(1, 9999);
        due("P5 a cat stays", c.of(0, 5), 0);
        TwoTuesdays s = townOf(SLEEPER, 0, 0);
        s.prize(1, 9999);
        due("P5 a sleeper stays", s.of(0, 5), 0);
    }

    private static void secondAndRegret() {
        // All three come to 1 (100), where each gets 33; one alone at 5 would have 40.
        TwoTuesdays x = townOf(PERSON, 0, 1, 2);
        prizes(x, 0, 300, 0, 33, 0, 0, 0, 0);
        x.prize(1, 100);
        due("P5 shared, cut", x.of(0, 6), 33);
        due("P5 as much elsewhere is no regret", x.of(0, 7), 0);
        x.prize(5, 34);
        due("P5 more elsewhere, unseen", x.of(2, 7), 1);
        due("P10 who regrets", x.now(2), 7);
        due("P43 how many regret", x.count(2), 3);

        // 0 shares place 0 with 1; 2 has place 1 alone: coming to it 0 would have 41 by 2.
        TwoTuesdays y = townOf(CAT, 0, 0, 1);
        prizes(y, 40, 41, 0, 0, 0, 0, 0, 0);
        due("P5 one more would share", y.of(0, 7), 0);
        y.prize(1, 42);
        due("P5 one more would share 42", y.of(0, 7), 1);
        due("P5 the other place's own", y.of(2, 7), 0);
        due("P5 alone it gets all", y.of(2, 6), 42);
        due("P5 regret for place 7", regretOf(0, 7), 1);
        due("P5 regret for place 0", regretOf(7, 0), 1);
        due("P5 what it has of itself is no other place", townOf(CAT, 0).of(0, 7), 0);
    }

    private static int regretOf(int plan, int dear) {
        TwoTuesdays x = townOf(CAT, plan);
        x.prize(dear, 11);
        return x.of(0, 7);
    }

    private static void tuesdays() {
        TwoTuesdays x = townOf(PERSON, 2, 2);
        x.change(1, 0, CAT);
        x.prize(3, 41);
        due("P9 one", x.go(1), 51);
        due("P9 goods", x.of(0, 4), 41);
        due("P9 goods of the other", x.of(1, 4), 10);
        due("P9 plan", x.of(0, 1), 3);
        due("P9 plan of the cat", x.of(1, 1), 2);
        due("P9 Tuesday", x.now(0), 1);
        due("P9 more", x.go(60), 61 * 51);
        due("P9 Tuesday then", x.now(0), 61);
        due("P9 n 0", x.go(0), BEYOND);
        due("P9 n 61", x.go(61), BEYOND);
        due("P9 n -1", x.go(-1), BEYOND);
        due("P9 n MAX", x.go(MAX), BEYOND);
        due("P9 nothing changed", x.now(0), 61);
        x.change(0, 4, 99990);
        due("P9 goods end at 99999", x.go(1), 99999 + 62 * 10);

        // All at once: both see one another's place emptier than it will be, and change places.
        TwoTuesdays y = townOf(GAMBLER, 0, 1, 1);
        prizes(y, 0, 100, 50, 0, 0, 0, 0, 0);
        y.change(1, 0, THIEF);
        y.change(1, 3, 0);
        due("P9 both see 1 and 0", y.go(1), 50);
        due("P9 the gambler stays", y.of(0, 1), 0);
        due("P9 the thief comes to its love", y.of(1, 1), 0);
        due("P9 the second gambler goes where nobody was", y.of(2, 1), 2);
        due("P9 a town of nobody", new TwoTuesdays().go(60), 0);
    }

    /** No run of 512 calls gets so far; what stands behind that is free, but the class keeps to it. */
    private static void theLastTuesday() {
        TwoTuesdays x = townOf(PERSON, 3);
        for (int i = 0; i < 1666; i++) {
            x.go(60);
        }
        due("P9 Tuesday", x.now(0), 99960);
        due("P9 one too many", x.go(40), STATE);
        due("P9 beyond comes ahead of state", x.go(61), BEYOND);
        x.go(20);
        due("P27 one too many", x.weather(20), STATE);
        due("P27 no draw", x.count(6), 1);
        due("P27 nothing changed", x.now(0), 99980);
        x.image();
        due("P9 up to the last", x.go(19) >= 0 ? 1 : 0, 1);
        due("P9 it is the last", x.now(0), 99999);
        x.undo();
        due("P27 up to the last", x.weather(19) >= 0 ? 1 : 0, 1);
        due("P27 it is the last", x.now(0), 99999);
        due("P9 no more", x.go(1), STATE);
        due("P27 no more", x.weather(1), STATE);
        due("P44 STATE", x.status(4), 4);
        due("P11 what would be is no state", x.ahead(0, 5), 99999);
    }

    private static void nowTells() {
        TwoTuesdays x = new TwoTuesdays();
        due("P10 nobody is richest", x.now(5), -1);
        due("P10 nobody is anywhere", x.now(3), 0);
        x.person(PERSON, 0);
        x.person(PERSON, 7);
        x.person(CAT, 7);
        x.prize(1, 30);
        due("P10 Tuesday", x.now(0), 0);
        due("P10 goods", x.now(1), 0);
        due("P10 places", x.now(3), 2 + 64 + 128);
        due("P10 whose choice is not its plan", x.now(4), 3);
        due("P10 richest, the least", x.now(5), 0);
        x.change(2, 4, 5);
        x.change(1, 4, 5);
        due("P10 richest of two", x.now(5), 1);
        due("P10 goods of all", x.now(1), 10);
        x.go(3);
        due("P10 Tuesday 3", x.now(0), 3);
        due("P10 all rest", x.now(4), 0);
        due("P10 what -1", x.now(-1), BEYOND);
        due("P10 what 6", x.now(6), BEYOND);
    }

    private static void whatWillBe() {
        // It climbs one place a Tuesday: 10 at 1, 20 at 2, .. 70 at 7, and stays there.
        TwoTuesdays x = townOf(PERSON, 0);
        prizes(x, 0, 10, 20, 30, 40, 50, 60, 70);
        due("P11 now", x.ahead(0, 0), 0);
        due("P11 behind one", x.ahead(0, 1), 10);
        due("P11 behind three", x.ahead(0, 3), 60);
        due("P11 behind 100", x.ahead(0, 100), 280 + 93 * 70);
        due("P12 now", x.plan(0, 0), 0);
        due("P12 behind three", x.plan(0, 3), 3);
        due("P12 behind 100", x.plan(0, 100), 7);
        due("P13 it rests", x.rests(), 7);
        due("P11 nothing changed", x.now(1) + x.now(0) + x.of(0, 1), 0);
        for (int n : new int[] {-1, 101, MIN, MAX}) {
            due("P11 n " + n, x.ahead(0, n), BEYOND);
            due("P12 n " + n, x.plan(0, n), BEYOND);
        }
        for (int person : new int[] {-1, 1}) {
            due("P11 person " + person, x.ahead(person, 1), BEYOND);
            due("P12 person " + person, x.plan(person, 1), BEYOND);
        }
        x.change(0, 4, 99995);
        due("P11 goods end at 99999", x.ahead(0, 1), 99999);
    }

    private static void restsRoundMeet() {
        // Two gamblers at one place both leave it, find one another again and go back.
        TwoTuesdays x = townOf(GAMBLER, 0, 0);
        prizes(x, 10, 10, 0, 0, 0, 0, 0, 0);
        due("P13 never", x.rests(), NONE);
        due("P14 there and back", x.round(), 2);
        due("P15 always together", x.meet(0, 1), 0);
        due("P13 nobody rests at once", new TwoTuesdays().rests(), 0);
        due("P14 nobody is as now", new TwoTuesdays().round(), 1);
        due("P13 a cat rests", townOf(CAT, 3).rests(), 0);
        due("P14 a cat", townOf(CAT, 3).round(), 1);

        TwoTuesdays y = townOf(PERSON, 0, 7);
        prizes(y, 0, 10, 20, 30, 40, 50, 60, 700);
        due("P15 when the climber is there", y.meet(0, 1), 6);
        due("P15 the other way round", y.meet(1, 0), 6);
        due("P14 not again", y.round(), NONE);
        due("P15 two cats apart", townOf(CAT, 3, 4).meet(0, 1), NONE);
        due("P15 two cats together", townOf(CAT, 3, 3).meet(0, 1), 0);
        due("P15 the same one", y.meet(1, 1), BEYOND);
        due("P15 a -1", y.meet(-1, 1), BEYOND);
        due("P15 b -1", y.meet(1, -1), BEYOND);
        due("P15 a 2", y.meet(2, 1), BEYOND);
        due("P15 b 2", y.meet(1, 2), BEYOND);
        due("P13 nothing changed", y.now(0) + y.of(0, 1), 0);
    }

    /** Prizes, then of each one kind, plan, looks, love. */
    private static TwoTuesdays townOf(int[] prizes, int[]... people) {
        TwoTuesdays x = new TwoTuesdays();
        prizes(x, prizes);
        for (int[] one : people) {
            x.person(one[0], one[1]);
        }
        for (int i = 0; i < people.length; i++) {
            x.change(i, 2, people[i][2]);
            x.change(i, 3, people[i][3]);
        }
        return x;
    }

    /** Towns found by search, that rest, come round or meet late; walking there shows that they do. */
    private static void edgesOfAHundred() {
        TwoTuesdays x = townOf(new int[] {49, 41, 8, 34, 44, 74, 58, 12}, new int[] {3, 7, 2, 6},
            new int[] {2, 5, 7, 0}, new int[] {2, 0, 5, -1}, new int[] {3, 5, 6, 5}, new int[] {2, 4, 1, 1},
            new int[] {0, 2, 2, 3}, new int[] {3, 4, 3, -1});
        x.go(39);
        due("P13 behind 101", x.rests(), NONE);
        x.go(1);
        due("P13 behind 100", x.rests(), 100);
        for (int n = 0; n < 100; n++) {
            due("P13 not yet, " + n, x.now(4) != 0 ? 1 : 0, 1);
            x.go(1);
        }
        due("P13 at rest", x.now(4), 0);

        TwoTuesdays y = townOf(new int[] {58, 25, 17, 53, 15, 45, 31, 30}, new int[] {1, 3, 3, 1},
            new int[] {2, 4, 3, 2}, new int[] {3, 3, 3, 0}, new int[] {3, 2, 4, 6}, new int[] {3, 4, 3, 3},
            new int[] {4, 7, 3, 1}, new int[] {0, 5, 7, 1});
        y.go(60);
        due("P14 behind 100", y.round(), 100);
        y.image();
        y.go(1);
        y.go(49);
        due("P14 not behind 50", samePlans(y), 0);
        y.go(50);
        due("P14 round", samePlans(y), 1);

        TwoTuesdays z = townOf(new int[] {4, 67, 33, 73, 48, 41, 25, 67}, new int[] {2, 5, 3, 6},
            new int[] {3, 0, 2, 4}, new int[] {4, 5, 6, 5}, new int[] {4, 4, 7, 6}, new int[] {3, 6, 7, 7},
            new int[] {3, 6, 5, 3}, new int[] {1, 7, 2, 0}, new int[] {0, 0, 3, 1});
        due("P15 behind 101", z.meet(7, 5), NONE);
        z.go(1);
        due("P15 behind 100", z.meet(7, 5), 100);
        z.go(50);
        z.go(50);
        due("P15 they meet", z.of(7, 5), z.of(5, 5));
    }

    /** 1 if all plans are now as the image keeps them; the image comes back by that. */
    private static int samePlans(TwoTuesdays x) {
        int[] now = new int[x.count(1)];
        for (int i = 0; i < now.length; i++) {
            now[i] = x.of(i, 1);
        }
        int walked = x.count(0);
        int is = 1;
        int back = walked - x.undo();
        for (int i = 0; i < now.length; i++) {
            is = x.of(i, 1) == now[i] ? is : 0;
        }
        for (int i = 0; i < back; i++) {
            x.go(1);
        }
        return is;
    }

    private static void crowds() {
        TwoTuesdays x = townOf(PERSON, 0, 1, 7);
        prizes(x, 0, 10, 20, 30, 40, 50, 60, 700);
        // 1 is at 2, 3, .. 7 on the seconds; 0 is at 1 on two of them, for 20 by 2 is no more than 10.
        due("P16 most at 2 on the first", x.crowd(2, 1, 1), 1);
        due("P16 most at 7", x.crowd(7, 100, 1), 3);
        due("P16 fewest at 7", x.crowd(7, 100, 0), 1);
        due("P16 at 7 before they come", x.crowd(7, 5, 1), 1);
        due("P16 the first of them comes on the sixth", x.crowd(7, 6, 1), 2);
        due("P16 fewest at 2", x.crowd(2, 1, 0), 1);
        due("P16 fewest at 2 then", x.crowd(2, 2, 0), 0);
        due("P16 where they are now is no second", x.crowd(0, 100, 1), 0);
        due("P16 place -1", x.crowd(-1, 1, 0), BEYOND);
        due("P16 place 8", x.crowd(8, 1, 0), BEYOND);
        due("P16 n 0", x.crowd(0, 0, 0), BEYOND);
        due("P16 n 101", x.crowd(0, 101, 0), BEYOND);
        due("P16 what -1", x.crowd(0, 1, -1), BEYOND);
        due("P16 what 2", x.crowd(0, 1, 2), BEYOND);
        due("P16 nobody", new TwoTuesdays().crowd(0, 100, 0), 0);
        TwoTuesdays full = townOf(CAT, 5, 5, 5, 5, 5, 5, 5, 5);
        due("P16 fewest of all eight", full.crowd(5, 3, 0), 8);
    }

    private static void bestFor() {
        TwoTuesdays x = townOf(PERSON, 0, 7);
        prizes(x, 0, 10, 20, 30, 40, 50, 60, 70);
        x.change(1, 0, CAT);
        // The cat has the 70: one does best alone at 6 with 60, and comes there from 5, too.
        due("P17 behind 1", x.planFor(0, 1), 5);
        due("P17 behind 60", x.planFor(0, 60), 5);
        due("P19 it must see 6", x.looksFor(0, 1), 6);
        due("P20 a person loves in vain", x.loveFor(0, 60), -1);
        due("P17 behind 0 all do: the least", x.planFor(0, 0), 0);
        due("P18 behind 0", x.kindFor(0, 0), 0);
        due("P19 behind 0", x.looksFor(0, 0), 0);
        due("P20 behind 0", x.loveFor(0, 0), -1);
        for (int n : new int[] {-1, 61, MIN, MAX}) {
            dueForAll(x, 0, n);
        }
        for (int person : new int[] {-1, 2, MIN, MAX}) {
            dueForAll(x, person, 1);
        }
        due("P17 nothing changed", x.now(0) + x.now(1) + x.of(0, 0) + x.of(0, 1), 0);
        due("P19 nothing changed", x.of(0, 2), 1);
        due("P20 nothing changed", x.of(0, 3), -1);
        TwoTuesdays last = townOf(LOVER, 0, 0, 0, 0, 0, 0, 0, 6);
        prizes(last, 0, 0, 0, 0, 0, 0, 0, 900);
        last.change(7, 0, CAT);
        due("P17 the last plan", last.planFor(0, 1), 6);
        last.change(0, 2, 0);
        due("P17 the last plan alone", last.planFor(0, 1), 7);
        due("P19 as far as can be", last.looksFor(0, 1), 7);
        last.change(0, 2, 6);
        due("P20 the last one leads on", last.loveFor(0, 2), 7);
        kindThatPays();
        loveThatPays();
    }

    private static void dueForAll(TwoTuesdays x, int person, int n) {
        due("P17 planFor(" + person + ", " + n + ")", x.planFor(person, n), BEYOND);
        due("P18 kindFor(" + person + ", " + n + ")", x.kindFor(person, n), BEYOND);
        due("P19 looksFor(" + person + ", " + n + ")", x.looksFor(person, n), BEYOND);
        due("P20 loveFor(" + person + ", " + n + ")", x.loveFor(person, n), BEYOND);
    }

    private static void kindThatPays() {
        // 0 is alone at 1, and two persons are at 0.
        TwoTuesdays x = townOf(PERSON, 1, 0, 0);
        prizes(x, 39, 20, 0, 0, 0, 0, 0, 0);
        // As a person it sees 13 at 0 and 20 at 1, and stays; so do the others, with 19 each.
        due("P18 a person keeps 20", x.kindFor(0, 1), PERSON);
        // Now it thinks to have 21 at 0, goes and has that; as a gambler it would stay with its 20.
        x.prize(0, 63);
        due("P18 a person has 21", x.kindFor(0, 1), PERSON);
        // Both others go from 33 to where they think to have 34.
        x.prize(0, 66);
        x.prize(1, 68);
        x.change(0, 0, CAT);
        due("P5 the cat shares 68 with both", x.of(0, 6), 22);
        due("P18 nobody does better", x.kindFor(0, 1), PERSON);
        // With two cats at 0 and 40 in it, a thief thinks to have 13 + 4 there, goes, and has 13.
        TwoTuesdays y = townOf(CAT, 0, 0, 1);
        prizes(y, 40, 15, 0, 0, 0, 0, 0, 0);
        due("P18 as a person it stays with 15", y.kindFor(2, 1), PERSON);
        y.change(2, 0, THIEF);
        due("P5 as a thief it has 13", y.of(2, 6), 13);
        // A person follows 100 by 2 to a place where a gambler sees somebody, and meets two more there.
        TwoTuesdays z = townOf(PERSON, 1, 2, 3, 3);
        prizes(z, 0, 40, 100, 0, 0, 0, 0, 0);
        due("P5 as a person it has a quarter", z.of(0, 6), 25);
        due("P18 a gambler keeps its 40", z.kindFor(0, 1), GAMBLER);
    }

    private static void loveThatPays() {
        // Beyond what 1 can see from 0 there are 500 at 2: it gets there by loving the cat at 1 first.
        TwoTuesdays x = townOf(CAT, 1, 0, 7);
        prizes(x, 30, 20, 500, 0, 0, 0, 0, 0);
        x.change(1, 0, LOVER);
        due("P20 whom it loves leads it on", x.loveFor(1, 2), 0);
        due("P20 on the first day it costs", x.loveFor(1, 1), -1);
        due("P18 as a lover of nobody it stays: the least", x.kindFor(1, 2), 0);
        x.change(1, 3, 0);
        due("P18 as a lover of the cat it has 10, and 500 each time", x.kindFor(1, 60), LOVER);
        due("P18 10 and 500 are more than 30 and 30", x.kindFor(1, 2), LOVER);
        due("P18 10 are less than 30", x.kindFor(1, 1), PERSON);
        due("P20 whom it loves does not matter: what it would", x.loveFor(1, 1), -1);
        // The last one there may be the one, too.
        x.change(0, 1, 7);
        x.change(2, 1, 1);
        due("P20 the last", x.loveFor(1, 2), 2);
        x.change(0, 1, 1);
        due("P20 of two the least", x.loveFor(1, 2), 0);
    }

    private static void prizeForAndTell() {
        TwoTuesdays x = townOf(PERSON, 0, 1, 7);
        due("P21 none need to come", x.prizeFor(1, 0), 0);
        due("P21 who is there stays", x.prizeFor(1, 1), 10);
        due("P21 a second sees one there", x.prizeFor(1, 2), 22);
        due("P21 the third sees nothing of it", x.prizeFor(1, 3), NONE);
        due("P21 place -1", x.prizeFor(-1, 0), BEYOND);
        due("P21 place 8", x.prizeFor(8, 0), BEYOND);
        due("P21 k -1", x.prizeFor(0, -1), BEYOND);
        due("P21 k 9", x.prizeFor(0, 9), BEYOND);
        due("P21 nothing changed", x.place(1, 0), 10);
        x.prize(6, 200);
        due("P21 with 200 it still comes", x.prizeFor(7, 1), 200);
        x.prize(6, 201);
        due("P21 with 201 it does not", x.prizeFor(7, 1), NONE);

        TwoTuesdays y = townOf(CAT, 0, 1, 2, 2);
        due("P22 none", y.tell(2, 2), 0);
        due("P22 one: the least", y.tell(2, 3), 1);
        due("P22 two", y.tell(2, 4), 3);
        due("P22 two others", y.tell(5, 2), 3);
        due("P22 all", y.tell(5, 4), 15);
        due("P22 more than there are", y.tell(5, 5), NONE);
        due("P22 k 0", y.tell(5, 0), 0);
        due("P22 k -1", y.tell(5, -1), BEYOND);
        due("P22 k 9", y.tell(5, 9), BEYOND);
        due("P22 place -1", y.tell(-1, 0), BEYOND);
        due("P22 place 8", y.tell(8, 0), BEYOND);
        due("P22 nothing changed", y.of(0, 1), 0);

        // Told to be at 5, the lovers come too: the cat that they love, number 3, is the one to tell.
        TwoTuesdays z = townOf(LOVER, 4, 4, 6, 0);
        z.change(3, 0, CAT);
        for (int i = 0; i < 3; i++) {
            z.change(i, 3, 3);
        }
        due("P22 the one who is loved", z.tell(5, 3), 8);
        due("P22 one is fewer than two, though more as a number", z.tell(5, 4), 8);
        due("P22 one there", z.tell(5, 1), 1);
        TwoTuesdays few = townOf(CAT, 0, 0, 0, 4, 6);
        few.change(3, 0, LOVER);
        few.change(4, 0, LOVER);
        few.change(3, 3, 2);
        few.change(4, 3, 2);
        due("P22 the one who is loved, not the two cats ahead of it", few.tell(5, 2), 4);
        due("P22 three by one", few.tell(5, 3), 4);
        due("P22 four by two", few.tell(5, 4), 5);
    }

    private static void awayAndSwap() {
        due("P23 nobody", new TwoTuesdays().away(), NONE);
        due("P23 one", townOf(CAT, 3).away(), 0);
        TwoTuesdays x = townOf(CAT, 0, 1, 1);
        prizes(x, 10, 31, 0, 0, 0, 0, 0, 0);
        // Without 0: 15 + 15; without 1: 10 + 31.
        due("P23 who shares", x.away(), 1);
        x.change(2, 4, 12);
        due("P23 goods of the others count", x.away(), 1);
        x.change(1, 4, 100);
        // Without 0: 115 + 27; without 1: 10 + 43; without 2: 10 + 131.
        due("P23 not its own", x.away(), 0);
        x.change(1, 4, 98);
        x.change(2, 4, 10);
        due("P23 not its own, of another", x.away(), 2);
        x.change(0, 4, 99999);
        due("P23 goods end at 99999", x.away(), 2);
        x.change(1, 4, 0);
        due("P23 of the two with less", x.away(), 1);
        due("P23 nothing changed", x.now(0) + x.of(1, 1) + x.of(2, 1), 2);

        // It is not seen, and its plan is nowhere: without the beloved cat the lover goes to 90.
        TwoTuesdays y = townOf(LOVER, 1, 0, 1);
        prizes(y, 0, 0, 90, 0, 0, 0, 0, 0);
        y.change(1, 0, CAT);
        y.change(2, 0, CAT);
        y.change(0, 3, 1);
        due("P23 the lover is free", y.away(), 1);

        due("P24 nobody", new TwoTuesdays().swapFor(0), NONE);
        due("P24 one", townOf(CAT, 3).swapFor(40), NONE);
        due("P24 two", townOf(CAT, 3, 4).swapFor(40), 1);
        due("P24 n 41", x.swapFor(41), BEYOND);
        due("P24 n -1", x.swapFor(-1), BEYOND);
        due("P24 beyond comes ahead of none", new TwoTuesdays().swapFor(41), BEYOND);
        due("P24 n 0: the least pair", x.swapFor(0), 1);
        // The cat holds 100 at 6; who is a person at 5 comes there, too. A swap with the sleeper
        // lets the person alone at 2.
        TwoTuesdays z = townOf(CAT, 6, 5, 2);
        prizes(z, 0, 0, 30, 0, 0, 1, 100, 0);
        z.change(1, 0, PERSON);
        z.change(2, 0, SLEEPER);
        due("P24 now 50 + 50 + 30, else", z.swapFor(1), 1);
        z.change(1, 2, 0);
        due("P24 all swaps give 131: the least", z.swapFor(40), 1);
        z.prize(1, 50);
        z.change(1, 2, 1);
        // 1 and 2: the person goes from 2 to 1 for 50, the cat has 100, the sleeper 1.
        due("P24 the person goes to 1", z.swapFor(1), 10);
        due("P24 nothing changed", z.of(1, 1) * 10 + z.of(2, 1), 52);
    }

    private static void whatWasTold() {
        // One alone, looking 1: with the plan p it climbs from p + 1 on.
        TwoTuesdays x = townOf(PERSON, 0);
        prizes(x, 0, 10, 20, 30, 40, 50, 60, 70);
        numbers(x, 0, 16, 0, 20, 50);
        due("P25 20 and 30", x.fits(0, 0), 2);
        numbers(x, 0, 16, 0, 70, 140);
        due("P25 from two plans", x.fits(0, 0), 64 + 128);
        numbers(x, 0, 16, 0, -1, 140);
        due("P25 any", x.fits(0, 0), 64 + 128);
        numbers(x, 0, 16, 5, -1);
        due("P25 not what it has now", x.fits(0, 0), 0);
        numbers(x, 0, 8, 255, 255);
        due("P25 255 of 8 bits is any", x.fits(0, 0), 255);
        numbers(x, 0, 8, 0, -2);
        due("P25 -2 is nothing", x.fits(0, 0), 0);
        x.sheet(1, 32, 0);
        due("P25 a sheet of none", x.fits(1, 0), 255);
        due("P26 a sheet of none", x.kinds(1, 0), 127);
        numbers(x, 0, 16, 0, 10);
        due("P26 those who go to 1", x.kinds(0, 0), 1 + 2 + 4 + 8 + 16);
        numbers(x, 0, 16, 0, 0, 0);
        due("P26 those who stay", x.kinds(0, 0), 32 + 64);
        due("P25 those without", x.fits(0, 0), 0);
        numbers(x, 0, 16, 0, -1, -1, 60);
        due("P26 behind three", x.kinds(0, 0), 31);
        due("P25 nothing changed", x.now(0) + x.of(0, 1) + x.of(0, 0) + x.of(0, 4), 0);
        for (int s : new int[] {-1, 4, MIN, MAX}) {
            due("P25 sheet " + s, x.fits(s, 0), BEYOND);
            due("P26 sheet " + s, x.kinds(s, 0), BEYOND);
        }
        due("P25 missing ahead of no such one", x.fits(3, 1), MISSING);
        due("P26 missing ahead of no such one", x.kinds(3, 1), MISSING);
        due("P25 no such one", x.fits(0, 1), BEYOND);
        due("P26 no such one", x.kinds(0, 1), BEYOND);
        due("P25 person -1", x.fits(0, -1), BEYOND);
        due("P26 person -1", x.kinds(0, -1), BEYOND);
    }

    private static int drawnFrom(int z) {
        return z * 1103515245 + 12345;
    }

    private static void weatherAndOdds() {
        TwoTuesdays x = townOf(CAT, 0, 1, 2, 3, 4, 5, 6, 7);
        int first = drawnFrom(-77);
        int second = drawnFrom(first);
        due("P29 z at first", x.seed(-77), 1);
        due("P43 z", x.count(6), -77);
        int place = (first >>> 8) % 8;
        int prize = (second >>> 8) % 100;
        due("P27 one", x.weather(1), 70 + prize);
        due("P27 the prize drawn", x.place(place, 0), prize);
        due("P27 z behind two draws", x.count(6), second);
        due("P27 Tuesday", x.now(0), 1);
        due("P27 n 0", x.weather(0), BEYOND);
        due("P27 n 21", x.weather(21), BEYOND);
        due("P27 no draw for a finding", x.count(6), second);
        x.weather(20);
        due("P27 Tuesday 21", x.now(0), 21);
        int z = second;
        for (int i = 0; i < 40; i++) {
            z = drawnFrom(z);
        }
        due("P27 z behind forty draws", x.seed(-1000001), z);
        due("P29 any int, no finding", x.seed(7), -1000001);
        due("P29 that one too", x.status(-1), 2);
        x.go(1);
        due("P9 no draw", x.seed(0), 7);

        // Both of these draws are of an int below 0.
        TwoTuesdays w = townOf(CAT, 0, 1, 2, 3, 4, 5, 6, 7);
        int below = 2;
        while (drawnFrom(below) >= 0 || drawnFrom(drawnFrom(below)) >= 0) {
            below++;
        }
        w.seed(below);
        int wet = (drawnFrom(drawnFrom(below)) >>> 8) % 100;
        due("P27 below 0", w.weather(1), 70 + wet);
        due("P27 the prize drawn below 0", w.place((drawnFrom(below) >>> 8) % 8, 0), wet);

        long[] sevens = {1, 7, 49};
        TwoTuesdays y = new TwoTuesdays();
        due("P28 all are empty, above", y.odds(20, 0), 1);
        due("P28 all are empty, below", y.odds(20, 1), 1);
        y.person(CAT, 0);
        for (int n = 0; n < 3; n++) {
            due("P28 7 of 8, above, " + n, y.odds(n, 0), sevens[n]);
            due("P28 7 of 8, below, " + n, y.odds(n, 1), 1L << 3 * n);
        }
        due("P28 7 of 8, above, 20", y.odds(20, 0), 79792266297612001L);
        due("P28 7 of 8, below, 20", y.odds(20, 1), 1L << 60);
        y.person(CAT, 1);
        due("P28 3 of 4, above", y.odds(3, 0), 27);
        due("P28 3 of 4, below", y.odds(3, 1), 64);
        y.person(CAT, 2);
        y.person(CAT, 3);
        due("P28 1 of 2, above", y.odds(5, 0), 1);
        due("P28 1 of 2, below", y.odds(5, 1), 32);
        y.person(CAT, 4);
        y.person(CAT, 5);
        y.person(CAT, 6);
        due("P28 1 of 8, below", y.odds(2, 1), 64);
        y.person(CAT, 7);
        due("P28 none, above", y.odds(20, 0), 0);
        due("P28 none, below", y.odds(20, 1), 1);
        due("P28 none, no draw, above", y.odds(0, 0), 1);
        due("P28 none, no draw, below", y.odds(0, 1), 1);
        due("P28 n -1", y.odds(-1, 0), BEYOND);
        due("P28 n 21", y.odds(21, 0), BEYOND);
        due("P28 what -1", y.odds(0, -1), BEYOND);
        due("P28 what 2", y.odds(0, 2), BEYOND);
        TwoTuesdays second2 = townOf(PERSON, 0);
        second2.person(PERSON, 2);
        second2.prize(1, 30);
        due("P28 as on the second", second2.odds(1, 0), 7);
    }

    private static void tape() {
        TwoTuesdays x = new TwoTuesdays();
        due("P30 n 0", x.feed(0, 0), BEYOND);
        due("P30 n 5", x.feed(0, 5), BEYOND);
        due("P30 n -1", x.feed(0, -1), BEYOND);
        // The highest of the two lowest bytes of this is 'c', and 'at' follows.
        due("P30 lowest bytes, highest first", x.feed(0x787863, 1), 1);
        due("P30 two", x.feed(0x78786174, 2), 3);
        due("P32 a cat", x.text(), 1);
        due("P5 it is", x.of(0, 0), CAT);
        for (int i = 1; i <= 29; i++) {
            due("P30 four", x.feed(-1, 4), 4 * i);
        }
        due("P30 three", x.feed(0x202020, 3), 119);
        due("P30 two more are too many", x.feed(0, 2), FULL);
        due("P30 four more are too many", x.feed(0, 4), FULL);
        due("P30 beyond comes ahead of full", x.feed(0, 5), BEYOND);
        due("P43 bytes", x.count(5), 119);
        due("P30 one is not", x.feed(0, 1), 120);
        due("P30 full", x.feed(0, 1), FULL);
        due("P31 had", x.wipe(), 120);
        due("P31 empty", x.wipe(), 0);
        due("P43 no bytes", x.count(5), 0);
        due("P32 an empty tape", x.text(), -1);
    }

    private static void textsThatStand() {
        TwoTuesdays x = new TwoTuesdays();
        x.person(CAT, 5);
        due("P32 items", read(x, "  lover at 7 looks 0 loves 0;prize 2 9999 ;thief looks7loves1;sleeper  "), 4);
        due("P32 the tape is empty", x.count(5), 0);
        int[][] due = {{CAT, 5, 1, -1, 0}, {LOVER, 7, 0, 0, 0}, {THIEF, 0, 7, 1, 0}, {SLEEPER, 0, 1, -1, 0}};
        due("P32 people", x.count(1), 4);
        for (int i = 0; i < due.length; i++) {
            for (int what = 0; what < 5; what++) {
                due("P32 of " + i + ", " + what, x.of(i, what), due[i][what]);
            }
        }
        due("P32 prize", x.place(2, 0), 9999);
        due("P32 prizes twice", read(x, "prize 2 5;prize 2 0006"), 2);
        due("P32 the later one", x.place(2, 0), 6);
        String[] names = {"person", "gambler", "lover", "jealous", "thief", "cat", "sleeper"};
        for (int kind = 0; kind < names.length; kind++) {
            TwoTuesdays y = new TwoTuesdays();
            due("P32 " + names[kind], read(y, names[kind] + " at" + kind), 1);
            due("P32 kind of " + names[kind], y.of(0, 0), kind);
            due("P32 plan of " + names[kind], y.of(0, 1), kind);
        }
        due("P32 eight", read(new TwoTuesdays(), "cat;cat;cat;cat;cat;cat;cat;cat;prize 0 0"), 9);
        StringBuilder long120 = new StringBuilder("cat at ");
        while (long120.length() < 120) {
            long120.append('0');
        }
        dueText(long120.toString(), 1);
        type(x, "cats 9999");
        x.wipe();
        due("P32 what was wiped is gone", read(x, "cat"), 1);
        type(x, "prize 3 456");
        x.wipe();
        due("P32 what was wiped is gone, too", read(x, "prize 3 4"), 1);
        due("P32 its prize", x.place(3, 0), 4);
        dueText("prize 7 0000000009999", 1);
        dueText("prize 0 0", 1);
        dueText("person loves0", -13);
    }

    private static void textsWithFaults() {
        dueText("   ", -4);
        dueText(";", -1);
        dueText("7", -1);
        dueText("at 1", -1);
        dueText("Cat", -1);
        dueText("bat", -1);
        dueText("drize 0 0", -1);
        dueText("cat bt 1", -5);
        dueText("cAt", -1);
        dueText("caT", -1);
        dueText("catat 1", -1);
        dueText("cat ;", -6);
        dueText("cat;;", -5);
        dueText("cat cat", -5);
        dueText("cat 1", -5);
        dueText("cat at", -7);
        dueText("cat at  ", -9);
        dueText("cat at 8", -8);
        dueText("cat at 99999999999999999999", -8);
        dueText("cat at 4294967296", -8);
        dueText("cat at x", -8);
        dueText("cat at;", -7);
        dueText("cat at 1 at 1", -10);
        dueText("cat looks", -10);
        dueText("cat looks 8", -11);
        dueText("cat looks 1 at 1", -13);
        dueText("cat;cat loves", -14);
        dueText("cat;cat loves 0 looks 1", -17);
        dueText("cat;cat loves 1", -15);
        dueText("cat;cat loves 0 1", -17);
        dueText("cat\tat 1", -4);
        dueText("cat\n", -4);
        dueText("cat at -1", -8);
        dueText("prize", -6);
        dueText("prize 8 1", -7);
        dueText("prize 7", -8);
        dueText("prize 7 10000", -9);
        dueText("prize 7 99990", -9);
        dueText("prize 7 99999000000000000000", -9);
        dueText("prize 7 1 1", -11);
        dueText("prize 7;1", -8);
        dueText("prize at", -7);
        dueText("prizes 1 1", -1);
        dueText("cat;cat;cat;cat;cat;cat;cat;cat; cat", -34);
        dueText("cat;" + (char) 228, -5);
        dueText("" + (char) 0, -1);

        TwoTuesdays x = new TwoTuesdays();
        due("P32 a fault behind good items", read(x, "cat at 3;prize 1 5;cat at 8"), -27);
        due("P32 nothing changed: people", x.count(1), 0);
        due("P32 nothing changed: prize", x.place(1, 0), 10);
        due("P32 the tape is empty", x.count(5), 0);
        due("P32 no finding", x.status(-1), 0);
        x.person(CAT, 0);
        for (int i = 0; i < 7; i++) {
            x.person(CAT, 0);
        }
        due("P32 a ninth", read(x, "prize 0 0; cat at 9"), -12);
        due("P32 and no prize", x.place(0, 0), 10);
    }

    private static void spots() {
        int[][] under = {{0, 1, 2, 3, 4, 5, 6}, {1, 6}, {2, 3, 4}, {3, 4}, {4}, {5}, {6}};
        TwoTuesdays x = townOf(PERSON, 0, 0, 0, 0, 0, 0, 0);
        for (int kind = 0; kind < 7; kind++) {
            x.change(kind, 0, kind);
        }
        for (int kind = 0; kind < 7; kind++) {
            due("P33 hold", x.hold(9 - kind, kind), 1);
            for (int as = 0; as < 7; as++) {
                boolean is = false;
                for (int one : under[as]) {
                    is |= one == kind;
                }
                due("P34 " + kind + " as " + as, x.as(9 - kind, as), is ? kind : KIND);
            }
        }
        due("P43 spots", x.count(7), 7);
        due("P33 another one", x.hold(9, 3), 1);
        due("P34 another one", x.as(9, 2), 3);
        due("P33 nothing", x.hold(9, -1), 1);
        due("P34 nothing", x.as(9, 0), MISSING);
        due("P43 spots then", x.count(7), 6);
        due("P33 spot -1", x.hold(-1, 0), BEYOND);
        due("P33 spot 10", x.hold(10, 0), BEYOND);
        due("P33 person -2", x.hold(0, -2), BEYOND);
        due("P33 person 7", x.hold(0, 7), BEYOND);
        due("P34 spot -1", x.as(-1, 0), BEYOND);
        due("P34 spot 10", x.as(10, 0), BEYOND);
        due("P34 kind -1", x.as(0, -1), BEYOND);
        due("P34 kind 7", x.as(0, 7), BEYOND);
        due("P34 beyond comes ahead of missing", x.as(9, 7), BEYOND);
        x.change(6, 0, CAT);
        due("P34 as what it is now", x.as(3, CAT), 6);
        due("P34 no longer", x.as(3, GAMBLER), KIND);
    }

    private static void sheets() {
        TwoTuesdays x = new TwoTuesdays();
        due("P35 sheet", x.sheet(0, 8, 40), 40);
        due("P35 sheet 3", x.sheet(3, 32, 0), 0);
        for (int bits : new int[] {-8, 1, 7, 9, 15, 24, 31, 33, 64, MIN, MAX}) {
            due("P35 bits " + bits, x.sheet(0, bits, 1), BEYOND);
        }
        due("P35 sheet -1", x.sheet(-1, 8, 1), BEYOND);
        due("P35 sheet 4", x.sheet(4, 8, 1), BEYOND);
        due("P35 no such sheet comes ahead of size", x.sheet(4, 8, -1), BEYOND);
        due("P35 other bits come ahead of size", x.sheet(0, 9, -1), BEYOND);
        due("P35 n -1", x.sheet(0, 16, -1), SIZE);
        due("P35 n -1 with bits 0", x.sheet(0, 0, -1), SIZE);
        due("P35 n 41", x.sheet(0, 16, 41), BEYOND);
        due("P35 n 41 with bits 0", x.sheet(0, 0, 41), BEYOND);
        due("P36 the sheet is still there", x.write(0, 39, 1), 1);
        due("P35 missing then", x.sheet(0, 0, 40), 0);
        due("P36 missing", x.write(0, 0, 1), MISSING);
        due("P36 missing ahead of no such number", x.write(0, -1, 1), MISSING);
        due("P36 sheet -1", x.write(-1, 0, 1), BEYOND);
        due("P36 sheet 4", x.write(4, 0, 1), BEYOND);
        due("P36 no number", x.write(3, 0, 1), BEYOND);
        x.sheet(1, 16, 2);
        due("P36 number -1", x.write(1, -1, 1), BEYOND);
        due("P36 number 2", x.write(1, 2, 1), BEYOND);
        due("P36 number 1", x.write(1, 1, 1), 1);

        // What a number is, load() shows: it takes 0 to 9999 alone.
        int[][] kept = {{8, 127, 127}, {8, 256 + 5, 5}, {16, 0x1270F, 9999}, {16, 65536, 0}, {32, 9999, 9999}};
        for (int[] k : kept) {
            numbers(x, 2, k[0], k[1]);
            due("P38 takes " + k[1], x.load(2), 1);
            due("P36 " + k[1] + " of " + k[0], x.place(0, 0), k[2]);
        }
        int[][] refused = {{8, 128}, {8, 255}, {16, 32768}, {16, 65535}, {16, 10000}, {32, 65536}, {32, -1}};
        for (int[] r : refused) {
            numbers(x, 2, r[0], r[1]);
            due("P38 does not take " + r[1] + " of " + r[0], x.load(2), 0);
        }
        numbers(x, 2, 8, 7, 7);
        x.sheet(2, 8, 2);
        due("P35 all 0 again", x.load(2), 2);
        due("P35 is 0", x.place(0, 0), 0);
    }

    private static void sheetsUsed() {
        TwoTuesdays x = new TwoTuesdays();
        numbers(x, 0, 8, 1, 2, 3, 4, 5);
        due("P37 over itself, up", x.copy(0, 0, 0, 1, 4), 4);
        x.load(0);
        int[] up = {1, 1, 2, 3, 4, 10, 10, 10};
        for (int place = 0; place < 8; place++) {
            due("P37 up, " + place, x.place(place, 0), up[place]);
        }
        due("P37 over itself, down", x.copy(0, 2, 0, 0, 3), 3);
        x.load(0);
        int[] down = {2, 3, 4, 3, 4, 10, 10, 10};
        for (int place = 0; place < 8; place++) {
            due("P37 down, " + place, x.place(place, 0), down[place]);
        }
        x.sheet(1, 8, 3);
        due("P37 to another", x.copy(0, 3, 1, 1, 2), 2);
        x.load(1);
        due("P37 came", x.place(0, 0) * 100 + x.place(1, 0) * 10 + x.place(2, 0), 34);
        due("P37 none", x.copy(0, 5, 1, 3, 0), 0);
        due("P37 too many of the one", x.copy(0, 4, 1, 0, 2), BEYOND);
        due("P37 too many of the other", x.copy(0, 0, 1, 2, 2), BEYOND);
        due("P37 from -1", x.copy(0, -1, 1, 0, 1), BEYOND);
        due("P37 to -1", x.copy(0, 0, 1, -1, 1), BEYOND);
        due("P37 n -1", x.copy(0, 1, 1, 1, -1), BEYOND);
        due("P37 extremes", x.copy(0, MAX, 1, MAX, MAX), BEYOND);
        due("P37 extremes below", x.copy(0, MIN, 1, MIN, MIN), BEYOND);
        due("P37 from and n", x.copy(0, MAX, 1, 0, 1), BEYOND);
        due("P37 none from too far", x.copy(0, 6, 1, 0, 0), BEYOND);
        due("P37 sheet -1", x.copy(-1, 0, 1, 0, 1), BEYOND);
        due("P37 sheet 4", x.copy(0, 0, 4, 0, 1), BEYOND);
        due("P37 the one is missing", x.copy(2, 0, 1, 0, 1), MISSING);
        due("P37 the other is missing", x.copy(0, 0, 2, 0, 1), MISSING);
        due("P37 no such sheet ahead of missing", x.copy(2, 0, 4, 0, 1), BEYOND);
        x.sheet(3, 16, 40);
        due("P37 other bits", x.copy(0, 0, 3, 0, 1), KIND);
        due("P37 kind ahead of beyond", x.copy(0, -1, 3, 0, 1), KIND);

        numbers(x, 3, 16, 1, 2, 3, 4, 5, 6, 7, 8, 9);
        due("P38 no more than places", x.load(3), 8);
        due("P38 the last", x.place(7, 0), 8);
        numbers(x, 3, 16, 50, 9999, -1, 60);
        due("P38 ends at the first", x.load(3), 2);
        due("P38 behind it nothing", x.place(3, 0), 4);
        due("P38 an empty one", x.load(x.sheet(0, 32, 0)), 0);
        due("P38 missing", x.load(2), MISSING);
        due("P38 sheet -1", x.load(-1), BEYOND);
        due("P38 sheet 4", x.load(4), BEYOND);

        TwoTuesdays y = townOf(PERSON, 0, 4, 7);
        y.prize(5, 20);
        numbers(y, 0, 8, 0, 5, 7);
        due("P39 so", y.judge(0), 0);
        numbers(y, 0, 8, 0, 5);
        due("P39 so, as far as it tells", y.judge(0), 0);
        numbers(y, 0, 8, 0, 4, 7);
        due("P39 the second is not so", y.judge(0), 2);
        numbers(y, 0, 8, 1, 4, 6);
        due("P39 the first is not so", y.judge(0), 1);
        numbers(y, 0, 8, 0, 5, 7, 0);
        due("P39 there is no fourth", y.judge(0), 4);
        y.sheet(0, 8, 0);
        due("P39 nothing told", y.judge(0), 0);
        due("P39 missing", y.judge(1), MISSING);
        due("P39 sheet -1", y.judge(-1), BEYOND);
        due("P39 sheet 4", y.judge(4), BEYOND);
    }

    private static void images() {
        TwoTuesdays x = townOf(PERSON, 3, 5);
        x.go(2);
        x.hold(4, 1);
        x.seed(99);
        numbers(x, 0, 8, 1);
        x.feed('c', 1);
        due("P40 image", x.image(), 1);
        x.go(5);
        x.person(CAT, 0);
        x.change(0, 0, THIEF);
        x.change(0, 1, 7);
        x.change(0, 2, 5);
        x.change(0, 3, 1);
        x.prize(3, 77);
        x.hold(4, -1);
        x.hold(5, 2);
        x.seed(3);
        x.write(0, 0, 2);
        x.feed('a', 1);
        x.of(9, 9);
        due("P41 Tuesday", x.undo(), 2);
        due("P41 Tuesday, too", x.count(0), 2);
        due("P41 people", x.count(1), 2);
        int[] traits = {PERSON, 3, 1, -1, 20};
        for (int what = 0; what < traits.length; what++) {
            due("P41 of 0, " + what, x.of(0, what), traits[what]);
        }
        due("P41 prize", x.place(3, 0), 10);
        due("P41 spot 4", x.as(4, 0), 1);
        due("P41 spot 5", x.as(5, 0), MISSING);
        due("P41 z", x.count(6), 99);
        due("P41 the tape stays", x.count(5), 2);
        due("P41 sheets stay", x.load(0), 1);
        due("P41 sheets stay: number", x.place(0, 0), 2);
        due("P44 undo takes none back", x.status(-1), 2);
        x.go(1);
        due("P41 again", x.undo(), 2);
        x.go(4);
        due("P40 a later one", x.image(), 1);
        x.go(4);
        due("P41 the latest", x.undo(), 6);
        due("P41 and no other", x.undo(), 6);
        due("P42 tear", x.tear(), 1);
        due("P42 tear again", x.tear(), 0);
        due("P41 nothing is kept", x.undo(), NONE);
        due("P41 nothing changed", x.count(0), 6);
        due("P40 anew", x.image(), 1);
        due("P41 anew", x.undo(), 6);
    }

    private static void countsAndStatus() {
        TwoTuesdays x = townOf(PERSON, 0, 0, 3);
        x.prize(1, 30);
        x.go(3);
        type(x, "cat");
        x.seed(MIN);
        x.hold(0, 0);
        x.hold(9, 0);
        int[] counts = {3, 3, 0, 2, 3 * 40, 3, MIN, 2};
        for (int what = 0; what < counts.length; what++) {
            due("P43 count " + what, x.count(what), counts[what]);
        }
        due("P44 none yet", x.status(-1), 0);
        x.prize(5, 9999);
        due("P43 who regret at once", x.count(2), 3);
        x.change(2, 1, 1);
        due("P43 places at once", x.count(3), 1);
        due("P43 what -1", x.count(-1), BEYOND);
        due("P43 what 8", x.count(8), BEYOND);
        x.write(0, 0, 0);
        x.sheet(0, 8, -1);
        x.undo();
        x.hold(1, 2);
        x.as(1, CAT);
        for (int i = 0; i < 6; i++) {
            x.person(CAT, 7);
        }
        x.odds(-1, 0);
        due("P44 BEYOND", x.status(0), 3);
        due("P44 FULL", x.status(1), 1);
        due("P44 KIND", x.status(2), 1);
        due("P44 NONE", x.status(3), 1);
        due("P44 STATE", x.status(4), 0);
        due("P44 MISSING", x.status(5), 1);
        due("P44 SIZE", x.status(6), 1);
        due("P44 all", x.status(-1), 8);
        due("P44 which -2", x.status(-2), BEYOND);
        due("P44 which 7", x.status(7), BEYOND);
        due("P44 these too", x.status(0), 5);
        due("P44 all then", x.status(-1), 10);
        x.text();
        due("P44 a fault is none", x.status(-1), 10);
    }
}
