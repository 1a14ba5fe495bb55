import java.math.BigInteger;
import java.util.ArrayList;
import java.util.Arrays;
import java.util.HashSet;
import java.util.List;
import java.util.Random;
import java.util.Set;
import java.util.TreeSet;
import java.util.function.ToIntFunction;
import java.util.regex.Matcher;
import java.util.regex.Pattern;

/**
 * Random runs of calls, each answer against that of a second, slow writing of the document. It is
 * written in another way on purpose (kinds as classes, towns copied for every question, texts by
 * patterns, odds by great numbers), so that one slip is not made twice.
 */
public final class ModelTests {
    private static final int RUNS = 300;
    private static final int CALLS = 512;

    private static int wrong = 0;
    private static long calls = 0;

    public static void main(String[] args) {
        Set<String> reached = new TreeSet<>();
        for (int run = 0; run < RUNS && wrong == 0; run++) {
            play(run, reached);
        }
        for (String due : List.of("BEYOND", "FULL", "KIND", "NONE", "MISSING", "SIZE", "text", "fault")) {
            if (wrong == 0 && !reached.contains(due)) {
                wrong++;
                System.out.println("no run reached " + due);
            }
        }
        if (wrong != 0) {
            System.exit(1);
        }
        System.out.println("all " + calls + " answers are as the model's");
    }

    private static void play(int run, Set<String> reached) {
        Random random = new Random(run);
        TwoTuesdays x = new TwoTuesdays();
        Model model = new Model();
        List<String> trace = new ArrayList<>();
        Caller caller = new Caller(random, run % 4 == 0);
        for (int i = 0; i < CALLS && wrong == 0; i++) {
            caller.choose(model);
            long got = caller.onClass(x);
            long want = model.answer(caller.name, caller.arguments);
            calls++;
            trace.add(caller + " answered " + got);
            note(reached, caller.name, want);
            if (got != want) {
                wrong++;
                System.out.println("run " + run + ":");
                trace.forEach(System.out::println);
                System.out.println("due is " + want);
            }
        }
    }

    private static void note(Set<String> reached, String name, long answer) {
        int which = (int) (Model.LOW - answer);
        if (answer < -1000000 && which >= 0 && which < 7 && !name.equals("seed") && !name.equals("count")) {
            reached.add(List.of("BEYOND", "FULL", "KIND", "NONE", "STATE", "MISSING", "SIZE").get(which));
        }
        if (name.equals("text")) {
            reached.add(answer < 0 ? "fault" : "text");
        }
    }

    /** Chooses calls, most of them with arguments that mean something. */
    private static final class Caller {
        static final String[] NAMES = {"prize", "place", "person", "of", "change", "seen", "wishes", "go", "now",
            "ahead", "plan", "rests", "round", "meet", "crowd", "planFor", "kindFor", "looksFor", "loveFor",
            "prizeFor", "tell", "away", "swapFor", "fits", "kinds", "weather", "odds", "seed", "feed", "wipe",
            "text", "hold", "as", "sheet", "write", "copy", "load", "judge", "image", "undo", "tear", "count",
            "status"};
        final Random random;
        final boolean isWild;
        final List<Integer> toFeed = new ArrayList<>();
        String name;
        int[] arguments;

        Caller(Random random, boolean isWild) {
            this.random = random;
            this.isWild = isWild;
        }

        int upTo(int most) {
            int r = random.nextInt(isWild ? 12 : 60);
            if (r == 0) {
                return -1 - random.nextInt(3);
            }
            if (r == 1) {
                return most + 1 + random.nextInt(3);
            }
            if (isWild && r == 2) {
                return random.nextInt();
            }
            if (isWild && r == 3) {
                return random.nextBoolean() ? Integer.MIN_VALUE : Integer.MAX_VALUE;
            }
            return random.nextInt(most + 1);
        }

        int who(Model model) {
            return upTo(Math.max(0, model.town.people.size() - 1));
        }

        int prizeLike() {
            int r = random.nextInt(10);
            return r == 0 ? upTo(9999) : r < 3 ? upTo(10) : upTo(120);
        }

        int goodsLike(Model model) {
            int r = random.nextInt(6);
            return r == 0 ? upTo(99999) : r == 1 ? 99999 - upTo(200) : upTo(200);
        }

        void choose(Model model) {
            if (!toFeed.isEmpty()) {
                feedOn();
                return;
            }
            name = NAMES[random.nextInt(NAMES.length)];
            if (model.town.people.size() < 3 && random.nextInt(3) == 0) {
                name = "person";
            }
            if (random.nextInt(25) == 0) {
                name = random.nextBoolean() ? "change" : "prize";
            }
            if (random.nextInt(40) == 0) {
                beginText(model);
                return;
            }
            arguments = argumentsFor(model);
        }

        private void beginText(Model model) {
            toFeed.addAll(someText(model));
            name = "wipe";
            arguments = new int[0];
        }

        private void feedOn() {
            if (toFeed.get(0) < 0) {
                toFeed.remove(0);
                name = "text";
                arguments = new int[0];
                return;
            }
            int n = 0;
            int bytes = random.nextInt();
            while (n < 4 && toFeed.get(0) >= 0) {
                bytes = bytes << 8 | toFeed.remove(0);
                n++;
            }
            name = "feed";
            arguments = new int[] {bytes, n};
        }

        private List<Integer> someText(Model model) {
            StringBuilder text = new StringBuilder();
            int items = 1 + random.nextInt(random.nextInt(5) == 0 ? 12 : 3);
            for (int i = 0; i < items; i++) {
                text.append(i == 0 ? "" : some(";", " ;", "; ", "  ;  "));
                text.append(random.nextInt(3) == 0 ? somePrize() : someOne(model));
            }
            if (random.nextInt(2) == 0) {
                spoil(text);
            }
            List<Integer> bytes = new ArrayList<>();
            for (int i = 0; i < Math.min(text.length(), 122); i++) {
                bytes.add((int) text.charAt(i));
            }
            bytes.add(-1);
            return bytes;
        }

        private String somePrize() {
            return "prize " + upTo(7) + " " + prizeLike();
        }

        private String someOne(Model model) {
            String one = some("person", "gambler", "lover", "jealous", "thief", "cat", "sleeper");
            one += random.nextBoolean() ? some(" at ", " at", "  at  ") + upTo(7) : "";
            one += random.nextBoolean() ? some(" looks ", " looks0") + upTo(7) : "";
            one += random.nextBoolean() ? some(" loves ", " loves") + upTo(model.town.people.size()) : "";
            return one;
        }

        private String some(String... of) {
            return of[random.nextInt(of.length)];
        }

        private void spoil(StringBuilder text) {
            int at = random.nextInt(text.length());
            int r = random.nextInt(5);
            if (r == 0) {
                text.setLength(at);
            } else if (r == 1) {
                text.deleteCharAt(at);
            } else if (r == 2) {
                text.insert(at, (char) random.nextInt(256));
            } else if (r == 3) {
                text.insert(at, some(" ", ";", "9", "at", "loves", "10000", " 1 ", " cat ", "prize "));
            } else {
                text.setCharAt(at, (char) (32 + random.nextInt(95)));
            }
        }

        private int[] argumentsFor(Model model) {
            switch (name) {
                case "prize":
                    return new int[] {upTo(7), prizeLike()};
                case "place":
                    return new int[] {upTo(7), upTo(2)};
                case "person":
                    return new int[] {upTo(6), upTo(7)};
                case "of":
                    return new int[] {who(model), upTo(7)};
                case "change":
                    return someChange(model);
                case "seen":
                case "wishes":
                    return new int[] {who(model), upTo(7)};
                case "go":
                    return new int[] {random.nextInt(4) == 0 ? upTo(60) : upTo(3)};
                case "now":
                    return new int[] {upTo(5)};
                case "ahead":
                case "plan":
                    return new int[] {who(model), random.nextInt(2) == 0 ? upTo(100) : upTo(5)};
                case "meet":
                    return new int[] {who(model), who(model)};
                case "crowd":
                    return new int[] {upTo(7), random.nextInt(2) == 0 ? upTo(100) : upTo(5), upTo(1)};
                case "planFor":
                case "kindFor":
                case "looksFor":
                case "loveFor":
                    return new int[] {who(model), random.nextInt(2) == 0 ? upTo(60) : upTo(5)};
                case "prizeFor":
                case "tell":
                    return new int[] {upTo(7), upTo(random.nextInt(3) == 0 ? 8 : 3)};
                case "swapFor":
                    return new int[] {random.nextInt(2) == 0 ? upTo(40) : upTo(4)};
                default:
                    return argumentsBehind(model);
            }
        }

        private int[] someChange(Model model) {
            int what = upTo(4);
            int v = what == 0 ? upTo(6) : what == 3 ? who(model) - random.nextInt(2) : upTo(7);
            return new int[] {who(model), what, what == 4 ? goodsLike(model) : v};
        }

        private int[] argumentsBehind(Model model) {
            int[] bits = {0, 8, 16, 32, 8, 16, 32};
            switch (name) {
                case "fits":
                case "kinds":
                    return new int[] {upTo(3), who(model)};
                case "weather":
                    return new int[] {upTo(20)};
                case "odds":
                    return new int[] {upTo(20), upTo(1)};
                case "seed":
                    return new int[] {random.nextInt(9) == 0 ? Model.LOW - random.nextInt(7) : random.nextInt()};
                case "feed":
                    return new int[] {random.nextInt(), upTo(4)};
                case "hold":
                    return new int[] {upTo(9), who(model) - random.nextInt(2)};
                case "as":
                    return new int[] {upTo(9), upTo(6)};
                case "sheet":
                    return new int[] {upTo(3), isWild && random.nextInt(5) == 0 ? upTo(40) : bits[random.nextInt(7)],
                        random.nextInt(3) == 0 ? upTo(40) : upTo(5)};
                case "write":
                    return someWrite(model);
                case "copy":
                    return new int[] {upTo(3), upTo(4), upTo(3), upTo(4), upTo(5)};
                case "load":
                case "judge":
                    return new int[] {upTo(3)};
                case "count":
                    return new int[] {upTo(7)};
                case "status":
                    return new int[] {upTo(7) - 1};
                default:
                    return new int[0];
            }
        }

        /** What is written is often what will be so, else fits() and judge() would hardly ever say yes. */
        private int[] someWrite(Model model) {
            int i = random.nextInt(3) == 0 ? upTo(40) : upTo(4);
            int v = random.nextInt(4) == 0 ? random.nextInt() : random.nextInt(3) == 0 ? -1 : prizeLike();
            int there = model.town.people.size();
            if (there > 0 && i >= 0 && i <= 40 && random.nextBoolean()) {
                v = random.nextBoolean() && i < there ? model.town.people.get(i).choice(model.town)
                    : model.town.behind(i).people.get(random.nextInt(there)).goods;
            }
            return new int[] {upTo(3), i, v};
        }

        long onClass(TwoTuesdays x) {
            int[] a = Arrays.copyOf(arguments, 5);
            switch (name) {
                case "prize": return x.prize(a[0], a[1]);
                case "place": return x.place(a[0], a[1]);
                case "person": return x.person(a[0], a[1]);
                case "of": return x.of(a[0], a[1]);
                case "change": return x.change(a[0], a[1], a[2]);
                case "seen": return x.seen(a[0], a[1]);
                case "wishes": return x.wishes(a[0], a[1]);
                case "go": return x.go(a[0]);
                case "now": return x.now(a[0]);
                case "ahead": return x.ahead(a[0], a[1]);
                case "plan": return x.plan(a[0], a[1]);
                case "rests": return x.rests();
                case "round": return x.round();
                case "meet": return x.meet(a[0], a[1]);
                case "crowd": return x.crowd(a[0], a[1], a[2]);
                case "planFor": return x.planFor(a[0], a[1]);
                case "kindFor": return x.kindFor(a[0], a[1]);
                case "looksFor": return x.looksFor(a[0], a[1]);
                case "loveFor": return x.loveFor(a[0], a[1]);
                case "prizeFor": return x.prizeFor(a[0], a[1]);
                case "tell": return x.tell(a[0], a[1]);
                case "away": return x.away();
                case "swapFor": return x.swapFor(a[0]);
                case "fits": return x.fits(a[0], a[1]);
                case "kinds": return x.kinds(a[0], a[1]);
                case "weather": return x.weather(a[0]);
                case "odds": return x.odds(a[0], a[1]);
                case "seed": return x.seed(a[0]);
                case "feed": return x.feed(a[0], a[1]);
                case "wipe": return x.wipe();
                case "text": return x.text();
                case "hold": return x.hold(a[0], a[1]);
                case "as": return x.as(a[0], a[1]);
                case "sheet": return x.sheet(a[0], a[1], a[2]);
                case "write": return x.write(a[0], a[1], a[2]);
                case "copy": return x.copy(a[0], a[1], a[2], a[3], a[4]);
                case "load": return x.load(a[0]);
                case "judge": return x.judge(a[0]);
                case "image": return x.image();
                case "undo": return x.undo();
                case "tear": return x.tear();
                case "count": return x.count(a[0]);
                case "status": return x.status(a[0]);
                default: throw new IllegalStateException(name);
            }
        }

        @Override
        public String toString() {
            return name + Arrays.toString(arguments).replace('[', '(').replace(']', ')');
        }
    }

    /** A finding, on its way out of an act. */
    private static final class Finding extends RuntimeException {
        private static final long serialVersionUID = 1L;
        final int which;

        Finding(int which) {
            super(null, null, false, false);
            this.which = which;
        }
    }

    /** One of the people; what it wishes goes by its class, as the kinds stand under one another. */
    private static class Person {
        int plan;
        int looks = 1;
        Integer love = null;
        int goods = 0;

        double wish(Town town, int place) {
            return Math.floor((double) town.prizes[place] / (1 + town.othersAt(this, place)));
        }

        boolean sees(int place) {
            return place >= plan - looks && place <= plan + looks;
        }

        int choice(Town town) {
            double most = Double.NEGATIVE_INFINITY;
            for (int place = 0; place < 8; place++) {
                if (sees(place)) {
                    most = Math.max(most, wish(town, place));
                }
            }
            if (wish(town, plan) == most) {
                return plan;
            }
            for (int place = 0; place < 8; place++) {
                if (sees(place) && wish(town, place) == most) {
                    return place;
                }
            }
            throw new IllegalStateException("no choice");
        }

        boolean learns() {
            return true;
        }
    }

    private static class Gambler extends Person {
        @Override
        double wish(Town town, int place) {
            return town.othersAt(this, place) > 0 ? 0 : town.prizes[place];
        }
    }

    private static final class Sleeper extends Gambler {
        @Override
        double wish(Town town, int place) {
            return place == plan ? super.wish(town, place) : 0;
        }

        @Override
        boolean learns() {
            return false;
        }
    }

    private static class Lover extends Person {
        @Override
        double wish(Town town, int place) {
            Person loved = love == null ? null : town.people.get(love);
            return super.wish(town, place) + (loved != null && !town.absent.contains(loved) && loved.plan == place ? 100 : 0);
        }
    }

    private static class Jealous extends Lover {
        @Override
        double wish(Town town, int place) {
            return super.wish(town, place) - 5 * town.othersAt(this, place);
        }
    }

    private static final class Thief extends Jealous {
        @Override
        double wish(Town town, int place) {
            return super.wish(town, place) + 7 * town.othersAt(this, place);
        }
    }

    private static final class Cat extends Person {
        @Override
        double wish(Town town, int place) {
            return place == plan ? 1 : 0;
        }

        @Override
        boolean learns() {
            return false;
        }
    }

    private static final List<Class<? extends Person>> KINDS = List.of(Person.class, Gambler.class, Lover.class,
        Jealous.class, Thief.class, Cat.class, Sleeper.class);

    private static Person make(int kind) {
        switch (kind) {
            case 0: return new Person();
            case 1: return new Gambler();
            case 2: return new Lover();
            case 3: return new Jealous();
            case 4: return new Thief();
            case 5: return new Cat();
            default: return new Sleeper();
        }
    }

    private static Person likeAs(Person one, int kind) {
        Person copy = make(kind);
        copy.plan = one.plan;
        copy.looks = one.looks;
        copy.love = one.love;
        copy.goods = one.goods;
        return copy;
    }

    private static int kindOf(Person one) {
        return KINDS.indexOf(one.getClass());
    }

    /** What an image keeps. */
    private static final class Town {
        int[] prizes = {10, 10, 10, 10, 10, 10, 10, 10};
        List<Person> people = new ArrayList<>();
        Set<Person> absent = new HashSet<>();
        Integer[] spots = new Integer[10];
        int tuesday = 0;
        int z = 1;

        Town copy() {
            Town copy = new Town();
            copy.prizes = prizes.clone();
            for (Person one : people) {
                copy.people.add(likeAs(one, kindOf(one)));
            }
            copy.spots = spots.clone();
            copy.tuesday = tuesday;
            copy.z = z;
            return copy;
        }

        List<Person> present() {
            List<Person> present = new ArrayList<>(people);
            present.removeAll(absent);
            return present;
        }

        int othersAt(Person one, int place) {
            return (int) present().stream().filter(p -> p != one && p.plan == place).count();
        }

        int comersAt(int place) {
            return (int) present().stream().filter(p -> p.choice(this) == place).count();
        }

        int gets(Person one) {
            int place = one.choice(this);
            return prizes[place] / comersAt(place);
        }

        boolean regrets(Person one) {
            int choice = one.choice(this);
            for (int place = 0; place < 8; place++) {
                if (place != choice && prizes[place] / (comersAt(place) + 1) > gets(one)) {
                    return true;
                }
            }
            return false;
        }

        void tuesday() {
            int[] choices = new int[people.size()];
            int[] comers = new int[8];
            for (int i = 0; i < choices.length; i++) {
                if (!absent.contains(people.get(i))) {
                    choices[i] = people.get(i).choice(this);
                    comers[choices[i]]++;
                }
            }
            for (int i = 0; i < choices.length; i++) {
                Person one = people.get(i);
                if (!absent.contains(one)) {
                    one.goods = Math.min(99999, one.goods + prizes[choices[i]] / comers[choices[i]]);
                    one.plan = one.learns() ? choices[i] : one.plan;
                }
            }
            tuesday++;
        }

        Town behind(int n) {
            Town later = copy();
            for (int i = 0; i < n; i++) {
                later.tuesday();
            }
            return later;
        }

        int goods() {
            return people.stream().mapToInt(p -> p.goods).sum();
        }

        boolean rests() {
            return people.stream().allMatch(p -> p.choice(this) == p.plan);
        }

        int draw() {
            z = z * 1103515245 + 12345;
            return z >>> 8;
        }
    }

    /** Where a text goes wrong. */
    private static final class Fault extends RuntimeException {
        private static final long serialVersionUID = 1L;
        final int at;

        Fault(int at) {
            super(null, null, false, false);
            this.at = at;
        }
    }

    /** All tokens of a text are cut first; the last one has no text and stands at the end. */
    private static final class Parser {
        static final Pattern TOKEN = Pattern.compile("[a-z]+|[0-9]+|;|[^ ]", Pattern.DOTALL);
        static final List<String> NAMES = List.of("person", "gambler", "lover", "jealous", "thief", "cat", "sleeper");
        final List<String> tokens = new ArrayList<>();
        final List<Integer> begins = new ArrayList<>();
        final Town town;
        int at = 0;

        Parser(String text, Town town) {
            this.town = town;
            Matcher matcher = TOKEN.matcher(text);
            while (matcher.find()) {
                tokens.add(matcher.group());
                begins.add(matcher.start());
            }
            tokens.add("");
            begins.add(text.length());
        }

        Fault fault() {
            return new Fault(begins.get(at));
        }

        int parse() {
            int items = 1;
            item();
            while (accept(";")) {
                item();
                items++;
            }
            if (!tokens.get(at).isEmpty()) {
                throw fault();
            }
            return items;
        }

        boolean accept(String token) {
            if (!tokens.get(at).equals(token)) {
                return false;
            }
            at++;
            return true;
        }

        int number(int most) {
            String digits = tokens.get(at);
            if (!digits.matches("[0-9]+") || new BigInteger(digits).compareTo(BigInteger.valueOf(most)) > 0) {
                throw fault();
            }
            at++;
            return Integer.parseInt(digits);
        }

        void item() {
            if (accept("prize")) {
                int place = number(7);
                town.prizes[place] = number(9999);
                return;
            }
            int kind = NAMES.indexOf(tokens.get(at));
            if (kind < 0 || town.people.size() == 8) {
                throw fault();
            }
            at++;
            Person one = make(kind);
            one.plan = accept("at") ? number(7) : 0;
            one.looks = accept("looks") ? number(7) : 1;
            one.love = accept("loves") ? (Integer) number(town.people.size() - 1) : null;
            town.people.add(one);
        }
    }

    private static final class Model {
        static final int LOW = -1000001;
        static final int BEYOND = 0;
        static final int FULL = 1;
        static final int KIND = 2;
        static final int NONE = 3;
        static final int STATE = 4;
        static final int MISSING = 5;
        static final int SIZE = 6;

        Town town = new Town();
        Town kept = null;
        String tape = "";
        long[][] sheets = new long[4][];
        int[] widths = new int[4];
        int[] told = new int[7];
        int[] a;

        long answer(String name, int[] arguments) {
            a = Arrays.copyOf(arguments, 5);
            try {
                return act(name);
            } catch (Finding finding) {
                told[finding.which]++;
                return LOW - finding.which;
            }
        }

        void need(boolean is, int which) {
            if (!is) {
                throw new Finding(which);
            }
        }

        int in(int v, int least, int most) {
            need(v >= least && v <= most, BEYOND);
            return v;
        }

        int who(int v) {
            return in(v, 0, town.people.size() - 1);
        }

        Person one(int v) {
            return town.people.get(who(v));
        }

        int set(int n, ToIntFunction<Integer> is) {
            int set = 0;
            for (int i = 0; i < n; i++) {
                set += is.applyAsInt(i) << i;
            }
            return set;
        }

        int setOf(java.util.function.Predicate<Person> is) {
            return set(town.people.size(), i -> is.test(town.people.get(i)) ? 1 : 0);
        }

        long act(String name) {
            switch (name) {
                case "prize": return prize(in(a[0], 0, 7), in(a[1], 0, 9999));
                case "place": return place(in(a[0], 0, 7), in(a[1], 0, 2));
                case "person": return person(in(a[0], 0, 6), in(a[1], 0, 7));
                case "of": return of(one(a[0]), in(a[1], 0, 7));
                case "change": return change(who(a[0]), in(a[1], 0, 4), a[2]);
                case "seen": return seen(one(a[0]), in(a[1], 0, 7));
                case "wishes": return wishes(one(a[0]), in(a[1], 0, 7));
                case "go": return go(in(a[0], 1, 60));
                case "now": return now(in(a[0], 0, 5));
                case "ahead": return town.behind(in(a[1], 0, 100)).people.get(who(a[0])).goods;
                case "plan": return town.behind(in(a[1], 0, 100)).people.get(who(a[0])).plan;
                case "rests": return rests();
                case "round": return round();
                case "meet": return meet(who(a[0]), who(a[1]));
                case "crowd": return crowd(in(a[0], 0, 7), in(a[1], 1, 100), in(a[2], 0, 1));
                case "planFor": return best(who(a[0]), in(a[1], 0, 60), 1, 0, 7);
                case "kindFor": return best(who(a[0]), in(a[1], 0, 60), 0, 0, 6);
                case "looksFor": return best(who(a[0]), in(a[1], 0, 60), 2, 0, 7);
                case "loveFor": return best(who(a[0]), in(a[1], 0, 60), 3, -1, town.people.size() - 1);
                case "prizeFor": return prizeFor(in(a[0], 0, 7), in(a[1], 0, 8));
                case "tell": return tell(in(a[0], 0, 7), in(a[1], 0, 8));
                case "away": return away();
                case "swapFor": return swapFor(in(a[0], 0, 40));
                default: return actBehind(name);
            }
        }

        long actBehind(String name) {
            switch (name) {
                case "fits": return fitting(1, 8);
                case "kinds": return fitting(0, 7);
                case "weather": return weather(in(a[0], 1, 20));
                case "odds": return odds(in(a[0], 0, 20), in(a[1], 0, 1));
                case "seed": return seed(a[0]);
                case "feed": return feed(a[0], in(a[1], 1, 4));
                case "wipe": return wipe();
                case "text": return text();
                case "hold": return hold(in(a[0], 0, 9), in(a[1], -1, town.people.size() - 1));
                case "as": return as(in(a[0], 0, 9), in(a[1], 0, 6));
                case "sheet": return sheet(in(a[0], 0, 3), a[1], a[2]);
                case "write": return write(sheetAt(a[0]), a[1], a[2]);
                case "copy": return copy();
                case "load": return load(sheets[sheetAt(a[0])]);
                case "judge": return judge(sheets[sheetAt(a[0])]);
                case "image": kept = town.copy(); return 1;
                case "undo": need(kept != null, NONE); town = kept.copy(); return town.tuesday;
                case "tear": int was = kept == null ? 0 : 1; kept = null; return was;
                case "count": return count(in(a[0], 0, 7));
                case "status": return status(in(a[0], -1, 6));
                default: throw new IllegalStateException(name);
            }
        }

        long prize(int place, int v) {
            int was = town.prizes[place];
            town.prizes[place] = v;
            return was;
        }

        long place(int place, int what) {
            return what == 0 ? town.prizes[place] : setOf(p -> (what == 1 ? p.plan : p.choice(town)) == place);
        }

        long person(int kind, int plan) {
            need(town.people.size() < 8, FULL);
            Person one = make(kind);
            one.plan = plan;
            town.people.add(one);
            return town.people.size() - 1;
        }

        long of(Person one, int what) {
            switch (what) {
                case 0: return kindOf(one);
                case 1: return one.plan;
                case 2: return one.looks;
                case 3: return one.love == null ? -1 : one.love;
                case 4: return one.goods;
                case 5: return one.choice(town);
                case 6: return town.gets(one);
                default: return town.regrets(one) ? 1 : 0;
            }
        }

        long change(int person, int what, int v) {
            int[] most = {6, 7, 7, town.people.size() - 1, 99999};
            in(v, what == 3 ? -1 : 0, most[what]);
            need(what != 3 || v != person, BEYOND);
            long was = of(town.people.get(person), what);
            put(town, person, what, v);
            return was;
        }

        void put(Town where, int person, int what, int v) {
            Person one = where.people.get(person);
            switch (what) {
                case 0: where.people.set(person, likeAs(one, v)); break;
                case 1: one.plan = v; break;
                case 2: one.looks = v; break;
                case 3: one.love = v < 0 ? null : (Integer) v; break;
                default: one.goods = v; break;
            }
        }

        long seen(Person one, int place) {
            need(one.sees(place), NONE);
            return town.othersAt(one, place);
        }

        long wishes(Person one, int place) {
            need(one.sees(place), NONE);
            return (long) one.wish(town, place);
        }

        long go(int n) {
            need(town.tuesday + n <= 99999, STATE);
            town = town.behind(n);
            return town.goods();
        }

        long now(int what) {
            switch (what) {
                case 0: return town.tuesday;
                case 1: return town.goods();
                case 2: return setOf(town::regrets);
                case 3: return set(8, place -> town.comersAt(place) > 0 ? 1 : 0);
                case 4: return setOf(p -> p.choice(town) != p.plan);
                default: return richest();
            }
        }

        long richest() {
            int most = town.people.stream().mapToInt(p -> p.goods).max().orElse(-1);
            for (int i = 0; i < town.people.size(); i++) {
                if (town.people.get(i).goods == most) {
                    return i;
                }
            }
            return -1;
        }

        int[] plans(Town where) {
            return where.people.stream().mapToInt(p -> p.plan).toArray();
        }

        long rests() {
            Town later = town.copy();
            int n = 0;
            while (!later.rests()) {
                n++;
                need(n <= 100, NONE);
                later.tuesday();
            }
            return n;
        }

        long round() {
            Town later = town.copy();
            for (int n = 1; n <= 100; n++) {
                later.tuesday();
                if (Arrays.equals(plans(town), plans(later))) {
                    return n;
                }
            }
            throw new Finding(NONE);
        }

        long meet(int one, int other) {
            need(one != other, BEYOND);
            Town later = town.copy();
            for (int n = 0; n <= 100; n++) {
                if (later.people.get(one).choice(later) == later.people.get(other).choice(later)) {
                    return n;
                }
                later.tuesday();
            }
            throw new Finding(NONE);
        }

        long crowd(int place, int n, int what) {
            TreeSet<Integer> crowds = new TreeSet<>();
            Town later = town.copy();
            for (int i = 0; i < n; i++) {
                crowds.add(later.comersAt(place));
                later.tuesday();
            }
            return what == 0 ? crowds.first() : crowds.last();
        }

        long best(int person, int n, int what, int least, int most) {
            long best = Long.MIN_VALUE;
            int which = 0;
            for (int v = most; v >= least; v--) {
                if (what == 3 && v == person) {
                    continue;
                }
                Town other = town.copy();
                put(other, person, what, v);
                long goods = other.behind(n).people.get(person).goods;
                if (goods >= best) {
                    best = goods;
                    which = v;
                }
            }
            return which;
        }

        long prizeFor(int place, int k) {
            for (int v = 0; v <= 200; v++) {
                Town other = town.copy();
                other.prizes[place] = v;
                if (other.comersAt(place) >= k) {
                    return v;
                }
            }
            throw new Finding(NONE);
        }

        long tell(int place, int k) {
            int n = town.people.size();
            for (int size = 0; size <= n; size++) {
                for (int set = 0; set < 1 << n; set++) {
                    if (Integer.bitCount(set) == size && told(set, place).comersAt(place) >= k) {
                        return set;
                    }
                }
            }
            throw new Finding(NONE);
        }

        Town told(int set, int place) {
            Town other = town.copy();
            for (int i = 0; i < other.people.size(); i++) {
                if ((set & 1 << i) != 0) {
                    other.people.get(i).plan = place;
                }
            }
            return other;
        }

        long away() {
            need(!town.people.isEmpty(), NONE);
            int most = -1;
            int which = -1;
            for (int i = 0; i < town.people.size(); i++) {
                Town other = town.copy();
                Person gone = other.people.get(i);
                other.absent.add(gone);
                other.tuesday();
                int goods = other.people.stream().filter(p -> p != gone).mapToInt(p -> p.goods).sum();
                if (goods > most) {
                    most = goods;
                    which = i;
                }
            }
            return which;
        }

        long swapFor(int n) {
            int there = town.people.size();
            need(there >= 2, NONE);
            int most = -1;
            int which = -1;
            for (int pair = 0; pair < 64; pair++) {
                int a = pair / 8;
                int b = pair % 8;
                if (a < b && b < there) {
                    Town other = town.copy();
                    other.people.get(a).plan = town.people.get(b).plan;
                    other.people.get(b).plan = town.people.get(a).plan;
                    int goods = other.behind(n).goods();
                    which = goods > most ? pair : which;
                    most = Math.max(most, goods);
                }
            }
            return which;
        }

        int sheetAt(int s) {
            in(s, 0, 3);
            need(sheets[s] != null, MISSING);
            return s;
        }

        long fitting(int what, int n) {
            long[] due = sheets[sheetAt(a[0])];
            int person = who(a[1]);
            int set = 0;
            for (int v = 0; v < n; v++) {
                Town other = town.copy();
                put(other, person, what, v);
                boolean fits = true;
                for (int i = 0; i < due.length; i++) {
                    fits &= due[i] == -1 || due[i] == other.behind(i).people.get(person).goods;
                }
                set |= fits ? 1 << v : 0;
            }
            return set;
        }

        long weather(int n) {
            need(town.tuesday + n <= 99999, STATE);
            for (int i = 0; i < n; i++) {
                int place = town.draw() % 8;
                town.prizes[place] = town.draw() % 100;
                town.tuesday();
            }
            return town.goods();
        }

        long odds(int n, int what) {
            int empty = 0;
            for (int place = 0; place < 8; place++) {
                empty += town.comersAt(place) == 0 ? 1 : 0;
            }
            BigInteger above = BigInteger.valueOf(empty).pow(n);
            BigInteger below = BigInteger.valueOf(8).pow(n);
            return (what == 0 ? above : below).divide(above.gcd(below)).longValueExact();
        }

        long seed(int v) {
            int was = town.z;
            town.z = v;
            return was;
        }

        long feed(int bytes, int n) {
            need(tape.length() + n <= 120, FULL);
            String fed = "";
            for (int i = 0; i < n; i++) {
                fed = (char) (bytes >> 8 * i & 0xFF) + fed;
            }
            tape += fed;
            return tape.length();
        }

        long wipe() {
            int had = tape.length();
            tape = "";
            return had;
        }

        long text() {
            Town draft = town.copy();
            Parser parser = new Parser(tape, draft);
            tape = "";
            try {
                int items = parser.parse();
                town = draft;
                return items;
            } catch (Fault fault) {
                return -1 - fault.at;
            }
        }

        long hold(int spot, int person) {
            town.spots[spot] = person == -1 ? null : (Integer) person;
            return 1;
        }

        long as(int spot, int kind) {
            Integer held = town.spots[spot];
            need(held != null, MISSING);
            need(KINDS.get(kind).isInstance(town.people.get(held)), KIND);
            return held;
        }

        long sheet(int s, int bits, int n) {
            need(Set.of(0, 8, 16, 32).contains(bits), BEYOND);
            need(n >= 0, SIZE);
            need(n <= 40, BEYOND);
            sheets[s] = bits == 0 ? null : new long[n];
            widths[s] = bits;
            return bits == 0 ? 0 : n;
        }

        long write(int s, int i, int v) {
            in(i, 0, sheets[s].length - 1);
            long all = 1L << widths[s];
            long low = Math.floorMod((long) v, all);
            sheets[s][i] = low >= all / 2 ? low - all : low;
            return 1;
        }

        long copy() {
            in(a[0], 0, 3);
            in(a[2], 0, 3);
            need(sheets[a[0]] != null && sheets[a[2]] != null, MISSING);
            need(widths[a[0]] == widths[a[2]], KIND);
            need(a[1] >= 0 && a[3] >= 0 && a[4] >= 0, BEYOND);
            need((long) a[1] + a[4] <= sheets[a[0]].length && (long) a[3] + a[4] <= sheets[a[2]].length, BEYOND);
            long[] were = sheets[a[0]].clone();
            for (int i = 0; i < a[4]; i++) {
                sheets[a[2]][a[3] + i] = were[a[1] + i];
            }
            return a[4];
        }

        long load(long[] numbers) {
            int came = 0;
            for (long number : numbers) {
                if (came == 8 || number < 0 || number > 9999) {
                    break;
                }
                town.prizes[came++] = (int) number;
            }
            return came;
        }

        long judge(long[] numbers) {
            for (int i = 0; i < numbers.length; i++) {
                if (i >= town.people.size() || town.people.get(i).choice(town) != numbers[i]) {
                    return i + 1;
                }
            }
            return 0;
        }

        long count(int what) {
            switch (what) {
                case 0: return town.tuesday;
                case 1: return town.people.size();
                case 2: return town.people.stream().filter(town::regrets).count();
                case 3: return town.people.stream().mapToInt(p -> p.choice(town)).distinct().count();
                case 4: return town.goods();
                case 5: return tape.length();
                case 6: return town.z;
                default: return Arrays.stream(town.spots).filter(s -> s != null).count();
            }
        }

        long status(int which) {
            return which < 0 ? Arrays.stream(told).sum() : told[which];
        }
    }
}
