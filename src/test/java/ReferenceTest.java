import java.math.BigInteger;
import java.util.ArrayList;
import java.util.List;
import java.util.NoSuchElementException;
import java.util.Random;
import java.util.TreeSet;

/**
 * Plays random runs on the class and on a second, slow house that is written straight from the document with other
 * means (portions one by one, all ways and all mixtures tried, big integers), and compares answer by answer.
 */
public final class ReferenceTest {
    private static final int RUNS = 1500;
    private static final int CALLS = 512;
    private static int wrong = 0;

    /** The calls of the face, so that both houses can be played alike. */
    private interface House {
        Object play(String name, int... v);
    }

    public static void main(String[] args) {
        Random random = new Random(20261119);
        long checked = 0;
        for (int run = 0; run < RUNS && wrong < 20; run++) {
            checked += playRun(run, random);
        }
        System.out.println(wrong == 0 ? checked + " answers are alike" : wrong + " answers are not alike");
        if (wrong != 0) {
            System.exit(1);
        }
    }

    private static int playRun(int run, Random random) {
        House real = new Real();
        Slow slow = new Slow();
        StringBuilder story = new StringBuilder();
        Choice choice = new Choice(random, slow);
        for (int i = 0; i < CALLS; i++) {
            Object[] next = choice.next(i);
            String name = (String) next[0];
            int[] values = (int[]) next[1];
            String got = answer(real, name, values, true);
            String want = answer(slow, name, values, false);
            story.append(name).append(java.util.Arrays.toString(values)).append(" = ").append(want).append("; ");
            if (!got.equals(want)) {
                wrong++;
                System.out.println("run " + run + ", answered " + got + ": " + story);
                return i + 1;
            }
        }
        return CALLS;
    }

    private static String answer(House house, String name, int[] values, boolean isReal) {
        try {
            return "" + house.play(name, values);
        } catch (RuntimeException e) {
            return isReal ? Runs.thrown(e) : e.getClass().getSimpleName();
        }
    }

    /** Which call comes next, with which numbers: mostly of things that are there, in one of four styles of a run. */
    private static final class Choice {
        private static final String[] NAMES = {"addLot", "closed", "lotNumber", "hold", "openJar", "jarLeft",
            "jarNumber", "throwJar", "pass", "week", "fromJar", "fromBatch", "inDrum", "empty", "mix", "batchLeft",
            "batchNumber", "hasLot", "throwBatch", "addBlend", "type", "narrow", "band", "isIn", "test", "ship", "got",
            "owes", "gotOf", "recall", "addOffer", "cheapest", "jarsOf", "bound", "mixtureCost", "mixturePart",
            "isOdd", "chance", "account", "checksum", "shippedShare", "meanOil", "isSound"};
        private static final int[] WEIGHTS = {8, 2, 3, 6, 20, 2, 4, 1, 3, 1, 40, 30, 1, 1, 14, 2, 6, 4, 1, 2, 6, 1, 2,
            4, 12, 30, 2, 3, 6, 4, 3, 3, 6, 3, 3, 5, 3, 2, 5, 3, 2, 2, 1};
        private static final String[] WORDS = {"mild", "hot", "fresh", "red", "re", "redd", "", "hotmildx", "freshh"};
        private final Random r;
        private final Slow slow;
        private final int style;
        private String pending = "";
        private int[] lastTested = {0, 0};

        Choice(Random r, Slow slow) {
            this.r = r;
            this.slow = slow;
            style = r.nextInt(4);
        }

        Object[] next(int turn) {
            if (!pending.isEmpty()) {
                int letter = pending.charAt(0);
                pending = pending.substring(1);
                boolean isEnd = letter == ' ';
                return new Object[] {isEnd ? "narrow" : "type", isEnd ? numbers("narrow") : new int[] {letter}};
            }
            String name = turn < 4 ? "addLot" : turn < 6 ? "addBlend" : pick();
            if (name.equals("type") && r.nextInt(4) > 0) {
                pending = WORDS[style < 2 ? r.nextInt(WORDS.length) : 2 + r.nextInt(2)] + " ";
                return next(turn);
            }
            return new Object[] {name, numbers(name)};
        }

        private String pick() {
            int all = 0;
            for (int weight : WEIGHTS) {
                all += weight;
            }
            int at = r.nextInt(all);
            int i = 0;
            while (at >= WEIGHTS[i]) {
                at -= WEIGHTS[i++];
            }
            return NAMES[i];
        }

        /** Mostly from low to high, now and then just outside, or far. */
        private int in(int low, int high) {
            int kind = r.nextInt(150);
            if (kind == 0) {
                return low - 1;
            }
            if (kind == 1) {
                return high + 1;
            }
            if (kind == 2) {
                return r.nextBoolean() ? Integer.MAX_VALUE : Integer.MIN_VALUE;
            }
            if (kind < 12) {
                return r.nextBoolean() ? low : high;
            }
            return low + r.nextInt(high - low + 1);
        }

        private int of(List<?> list) {
            int from = r.nextInt(3) == 0 ? Math.max(0, list.size() - 4) : 0;
            return list.isEmpty() ? r.nextInt(2) : in(from, list.size() - 1);
        }

        private int grams() {
            return style == 0 ? in(10, 60) : style == 3 ? in(450, 500) : in(10, 500);
        }

        private int spice() {
            return in(0, style < 2 ? 1 : 5);
        }

        private int lot() {
            return of(slow.lots);
        }

        private int need() {
            return r.nextBoolean() ? in(1, 200) : in(1, 2000);
        }

        /** Few grams, or just what is left, or one more. */
        private int portion(int left) {
            int kind = r.nextInt(style == 3 ? 8 : 30);
            return kind < 3 ? Math.max(1, left) : kind == 4 ? left + 1 : kind == 5 ? in(1, 5000) : in(1, 20);
        }

        private int[] numbers(String name) {
            switch (name) {
                case "addLot":
                    return lotNumbers();
                case "closed": case "recall": case "isOdd":
                    return new int[] {lot()};
                case "lotNumber":
                    return new int[] {lot(), in(0, 2)};
                case "hold":
                    return new int[] {lot(), r.nextInt(4) == 0 ? 1 : 0};
                case "openJar":
                    return new int[] {lot(), r.nextInt(2)};
                case "jarLeft": case "throwJar":
                    return new int[] {of(slow.jars)};
                case "jarNumber":
                    return new int[] {of(slow.jars), in(0, 2)};
                case "pass":
                    return new int[] {style == 2 && r.nextInt(2) == 0 ? in(15, 20) : in(1, r.nextInt(8) == 0 ? 20 : 3)};
                case "fromJar":
                    int jar = of(slow.jars);
                    return new int[] {jar, portion(jar >= 0 && jar < slow.jars.size() ? slow.jars.get(jar).left : 9)};
                case "fromBatch":
                    int batch = of(slow.batches);
                    return new int[] {batch, portion(left(batch))};
                case "batchLeft": case "throwBatch":
                    return new int[] {of(slow.batches)};
                case "batchNumber":
                    return new int[] {of(slow.batches), in(0, 2)};
                case "hasLot":
                    return new int[] {of(slow.batches), lot()};
                case "type":
                    return new int[] {in('a', 'z') & 0xffff};
                default:
                    return moreNumbers(name);
            }
        }

        private int left(int batch) {
            return batch >= 0 && batch < slow.batches.size() ? slow.batches.get(batch).left : 9;
        }

        private int[] moreNumbers(String name) {
            switch (name) {
                case "narrow": case "mixtureCost":
                    return new int[] {of(slow.blends)};
                case "band":
                    return new int[] {of(slow.blends), in(0, 2), r.nextInt(2)};
                case "isIn":
                    return new int[] {of(slow.batches), of(slow.blends)};
                case "test":
                    lastTested = new int[] {of(slow.batches), of(slow.blends)};
                    return lastTested.clone();
                case "ship":
                    int[] pair = r.nextInt(4) == 0 ? new int[] {of(slow.batches), of(slow.blends)} : lastTested;
                    return new int[] {pair[0], pair[1], in(0, 5), portion(left(pair[0]))};
                case "got": case "owes":
                    return new int[] {in(0, 5)};
                case "gotOf":
                    return new int[] {in(0, 5), lot()};
                case "addOffer":
                    return new int[] {spice(), grams(), style == 1 ? in(1, 5) : in(1, 999), in(1, style == 0 ? 9 : 4)};
                case "cheapest": case "bound":
                    return new int[] {spice(), need()};
                case "jarsOf":
                    return new int[] {spice(), need(), of(slow.offers)};
                case "mixturePart":
                    return new int[] {of(slow.blends), lot()};
                case "chance":
                    return new int[] {in(0, r.nextInt(20) + 1), in(1, 20)};
                case "account":
                    return new int[] {lot(), r.nextInt(30) == 0 ? 'x' : "bcotp".charAt(r.nextInt(5))};
                default:
                    return new int[0];
            }
        }

        private int[] lotNumbers() {
            int price = style == 1 ? in(1, 3) : in(1, 999);
            int from = style == 2 ? 45 : 0;
            return new int[] {spice(), in(from, 99), in(from, 99), in(from, 99), grams(), price,
                in(1, style == 0 ? 3 : 20)};
        }
    }

    private static final class Real implements House {
        private final Spicebourse x = new Spicebourse();

        public Object play(String name, int... v) {
            switch (name) {
                case "addLot": return x.addLot(v[0], v[1], v[2], v[3], v[4], v[5], v[6]);
                case "closed": return x.closed(v[0]);
                case "lotNumber": return x.lotNumber(v[0], v[1]);
                case "hold": return x.hold(v[0], v[1] == 1);
                case "openJar": return x.openJar(v[0], v[1] == 1);
                case "jarLeft": return x.jarLeft(v[0]);
                case "jarNumber": return x.jarNumber(v[0], v[1]);
                case "throwJar": return x.throwJar(v[0]);
                case "pass": return x.pass(v[0]);
                case "week": return x.week();
                case "fromJar": return x.fromJar(v[0], v[1]);
                case "fromBatch": return x.fromBatch(v[0], v[1]);
                case "inDrum": return x.inDrum();
                case "empty": return x.empty();
                case "mix": return x.mix();
                case "batchLeft": return x.batchLeft(v[0]);
                case "batchNumber": return x.batchNumber(v[0], v[1]);
                case "hasLot": return x.hasLot(v[0], v[1]);
                case "throwBatch": return x.throwBatch(v[0]);
                case "addBlend": return x.addBlend();
                case "type": return x.type((char) v[0]);
                case "narrow": return x.narrow(v[0]);
                default: return more(name, v);
            }
        }

        private Object more(String name, int... v) {
            switch (name) {
                case "band": return x.band(v[0], v[1], v[2] == 1);
                case "isIn": return x.isIn(v[0], v[1]);
                case "test": return x.test(v[0], v[1]);
                case "ship": return x.ship(v[0], v[1], v[2], v[3]);
                case "got": return x.got(v[0]);
                case "owes": return x.owes(v[0]);
                case "gotOf": return x.gotOf(v[0], v[1]);
                case "recall": return x.recall(v[0]);
                case "addOffer": return x.addOffer(v[0], v[1], v[2], v[3]);
                case "cheapest": return x.cheapest(v[0], v[1]);
                case "jarsOf": return x.jarsOf(v[0], v[1], v[2]);
                case "bound": return x.bound(v[0], v[1]);
                case "mixtureCost": return x.mixtureCost(v[0]);
                case "mixturePart": return x.mixturePart(v[0], v[1]);
                case "isOdd": return x.isOdd(v[0]);
                case "chance": return x.chance(v[0], v[1]);
                case "account": return x.account(v[0], (char) v[1]);
                case "checksum": return x.checksum();
                case "shippedShare": return x.shippedShare();
                case "meanOil": return x.meanOil();
                case "isSound": return x.isSound();
                default: throw new AssertionError(name);
            }
        }
    }

    private static final class SlowLot {
        int spice, grams, price, bought, closed, week, thrown, put;
        int[] came;
        boolean held;
    }

    private static final class SlowJar {
        int lot, left, week;
    }

    private static final class Portion {
        int grams, cost;
        int[] numbers;
        TreeSet<Integer> lots = new TreeSet<>();
    }

    private static final class SlowBatch {
        int made, left, cost;
        int[] numbers = new int[3];
        TreeSet<Integer> lots = new TreeSet<>();
    }

    private static final class SlowBlend {
        int[] low = {0, 0, 0};
        int[] high = {99, 99, 99};
        TreeSet<Integer> tested = new TreeSet<>();
    }

    private static final class SlowKitchen {
        int got;
        long owes;
        List<SlowBatch> from = new ArrayList<>();
    }

    private static final class Slow implements House {
        final List<SlowLot> lots = new ArrayList<>();
        final List<SlowJar> jars = new ArrayList<>();
        final List<Portion> drum = new ArrayList<>();
        final List<SlowBatch> batches = new ArrayList<>();
        final List<SlowBlend> blends = new ArrayList<>();
        final List<int[]> offers = new ArrayList<>();
        final SlowKitchen[] kitchens = new SlowKitchen[6];
        String word = "";
        int week = 0;
        int[] best;
        long bestCost;

        Slow() {
            for (int i = 0; i < 6; i++) {
                kitchens[i] = new SlowKitchen();
            }
        }

        public Object play(String name, int... v) {
            switch (name) {
                case "addLot": return addLot(v);
                case "closed": index(v[0], lots); return lots.get(v[0]).closed;
                case "lotNumber": index(v[0], lots); range(v[1], 0, 2); return faded(lots.get(v[0]))[v[1]];
                case "hold": return hold(v[0], v[1] == 1);
                case "openJar": return openJar(v[0], v[1] == 1);
                case "jarLeft": index(v[0], jars); return jars.get(v[0]).left;
                case "jarNumber": index(v[0], jars); range(v[1], 0, 2); return jarNumbers(jars.get(v[0]))[v[1]];
                case "throwJar": index(v[0], jars); return throwJar(jars.get(v[0]));
                case "pass": return pass(v[0]);
                case "week": return week;
                case "fromJar": return fromJar(v[0], v[1]);
                case "fromBatch": return fromBatch(v[0], v[1]);
                case "inDrum": return inDrum();
                case "empty": int was = inDrum(); drum.clear(); return was;
                case "mix": return mix();
                case "batchLeft": index(v[0], batches); return batches.get(v[0]).left;
                case "batchNumber":
                    index(v[0], batches); range(v[1], 0, 2); return batches.get(v[0]).numbers[v[1]];
                case "hasLot": index(v[0], batches); index(v[1], lots); return batches.get(v[0]).lots.contains(v[1]);
                case "throwBatch": return throwBatch(v[0]);
                case "addBlend": return addBlend();
                case "type": return type((char) v[0]);
                default: return more(name, v);
            }
        }

        private Object more(String name, int... v) {
            switch (name) {
                case "narrow": return narrow(v[0]);
                case "band":
                    index(v[0], blends); range(v[1], 0, 2);
                    return v[2] == 1 ? blends.get(v[0]).high[v[1]] : blends.get(v[0]).low[v[1]];
                case "isIn": index(v[0], batches); index(v[1], blends); return isIn(v[0], v[1]);
                case "test":
                    index(v[0], batches); index(v[1], blends); blends.get(v[1]).tested.add(v[0]);
                    return isIn(v[0], v[1]);
                case "ship": return ship(v[0], v[1], v[2], v[3]);
                case "got": kitchen(v[0]); return kitchens[v[0]].got;
                case "owes": kitchen(v[0]); return kitchens[v[0]].owes;
                case "gotOf": kitchen(v[0]); index(v[1], lots); return gotOf(v[0], v[1]);
                case "recall": return recall(v[0]);
                case "addOffer": return addOffer(v);
                case "cheapest": need(v[0], v[1]); return (int) bestCost;
                case "jarsOf": index(v[2], offers); need(v[0], v[1]); return best[v[2]];
                case "bound": need(v[0], v[1]); return bound(v[0], v[1]);
                case "mixtureCost": index(v[0], blends); mixture(blends.get(v[0])); return (int) bestCost;
                case "mixturePart":
                    index(v[0], blends); index(v[1], lots); mixture(blends.get(v[0])); return best[v[1]];
                case "isOdd": index(v[0], lots); return isOdd(v[0]);
                case "chance": return chance(v[0], v[1]);
                case "account": return account(v[0], (char) v[1]);
                case "checksum": return checksum();
                case "shippedShare": return shippedShare();
                case "meanOil": return meanOil();
                case "isSound": return true;
                default: throw new AssertionError(name);
            }
        }

        private static void index(int i, List<?> list) {
            if (i < 0 || i >= list.size()) {
                throw new IndexOutOfBoundsException();
            }
        }

        private static void kitchen(int i) {
            if (i < 0 || i > 5) {
                throw new IndexOutOfBoundsException();
            }
        }

        private static void range(int value, int low, int high) {
            if (value < low || value > high) {
                throw new IllegalArgumentException();
            }
        }

        private static void state(boolean isFine) {
            if (!isFine) {
                throw new IllegalStateException();
            }
        }

        private static void able(boolean isFine) {
            if (!isFine) {
                throw new UnsupportedOperationException();
            }
        }

        private int addLot(int[] v) {
            range(v[0], 0, 5);
            range(v[1], 0, 99);
            range(v[2], 0, 99);
            range(v[3], 0, 99);
            range(v[4], 10, 500);
            range(v[5], 1, 999);
            range(v[6], 1, 20);
            state(lots.size() < 12);
            SlowLot lot = new SlowLot();
            lot.spice = v[0];
            lot.came = new int[] {v[1], v[2], v[3]};
            lot.grams = v[4];
            lot.price = v[5];
            lot.bought = v[6];
            lot.closed = v[6];
            lot.week = week;
            lots.add(lot);
            return lots.size() - 1;
        }

        private int[] faded(SlowLot lot) {
            int[] every = {4, 2, 3};
            int[] numbers = new int[3];
            for (int what = 0; what < 3; what++) {
                numbers[what] = lot.came[what];
                for (int w = 1; w <= week - lot.week; w++) {
                    if (w % every[what] == 0 && numbers[what] > 0) {
                        numbers[what]--;
                    }
                }
            }
            return numbers;
        }

        private boolean hold(int lot, boolean is) {
            index(lot, lots);
            boolean was = lots.get(lot).held;
            lots.get(lot).held = is;
            return was;
        }

        private int openJar(int number, boolean isFresh) {
            index(number, lots);
            SlowLot lot = lots.get(number);
            able(!lot.held);
            able(lot.closed > 0);
            for (SlowLot other : lots) {
                able(isFresh || other.spice != lot.spice || other.week >= lot.week || other.closed == 0 || other.held);
            }
            state(jars.size() < 30);
            lot.closed--;
            SlowJar jar = new SlowJar();
            jar.lot = number;
            jar.left = lot.grams;
            jar.week = week;
            jars.add(jar);
            return jars.size() - 1;
        }

        private int[] jarNumbers(SlowJar jar) {
            int[] numbers = faded(lots.get(jar.lot));
            for (int what = 0; what < 3; what++) {
                numbers[what] = Math.max(0, numbers[what] - (week - jar.week));
            }
            return numbers;
        }

        private int throwJar(SlowJar jar) {
            int left = jar.left;
            lots.get(jar.lot).thrown += left;
            jar.left = 0;
            return left;
        }

        private int pass(int weeks) {
            range(weeks, 1, 20);
            state(week + weeks <= 500);
            for (int i = 0; i < weeks; i++) {
                week++;
                for (SlowJar jar : jars) {
                    if (week == jar.week + 8) {
                        throwJar(jar);
                    }
                }
            }
            return week;
        }

        private int inDrum() {
            int sum = 0;
            for (Portion portion : drum) {
                sum += portion.grams;
            }
            return sum;
        }

        private boolean isHeld(TreeSet<Integer> numbers) {
            for (int number : numbers) {
                if (lots.get(number).held) {
                    return true;
                }
            }
            return false;
        }

        private int fromJar(int number, int grams) {
            index(number, jars);
            range(grams, 1, Integer.MAX_VALUE);
            SlowJar jar = jars.get(number);
            SlowLot lot = lots.get(jar.lot);
            able(!lot.held && jar.left >= grams);
            state(drum.size() < 6 && inDrum() + grams <= 5000);
            Portion portion = new Portion();
            portion.grams = grams;
            portion.cost = lot.price * grams / lot.grams;
            portion.numbers = jarNumbers(jar);
            portion.lots.add(jar.lot);
            drum.add(portion);
            jar.left -= grams;
            lot.put += grams;
            return inDrum();
        }

        private static int take(SlowBatch batch, int grams) {
            int cost = (int) ((long) batch.cost * grams / batch.left);
            batch.cost -= cost;
            batch.left -= grams;
            return cost;
        }

        private int fromBatch(int number, int grams) {
            index(number, batches);
            range(grams, 1, Integer.MAX_VALUE);
            SlowBatch batch = batches.get(number);
            able(!isHeld(batch.lots) && batch.left >= grams);
            state(drum.size() < 6 && inDrum() + grams <= 5000);
            Portion portion = new Portion();
            portion.grams = grams;
            portion.numbers = batch.numbers.clone();
            portion.lots.addAll(batch.lots);
            portion.cost = take(batch, grams);
            drum.add(portion);
            return inDrum();
        }

        private int mix() {
            SlowBatch batch = new SlowBatch();
            for (Portion portion : drum) {
                batch.lots.addAll(portion.lots);
                batch.cost += portion.cost;
                batch.made += portion.grams;
            }
            able(!drum.isEmpty() && !isHeld(batch.lots));
            state(batches.size() < 20);
            for (int what = 0; what < 3; what++) {
                int sum = 0;
                for (Portion portion : drum) {
                    sum += portion.grams * portion.numbers[what];
                }
                batch.numbers[what] = sum / batch.made;
            }
            batch.left = batch.made;
            batches.add(batch);
            drum.clear();
            return batches.size() - 1;
        }

        private int throwBatch(int number) {
            index(number, batches);
            int left = batches.get(number).left;
            batches.get(number).left = 0;
            return left;
        }

        private int addBlend() {
            state(blends.size() < 6);
            blends.add(new SlowBlend());
            return blends.size() - 1;
        }

        private int type(char letter) {
            range("abcdefghijklmnopqrstuvwxyz".indexOf(letter), 0, 25);
            state(word.length() < 8);
            word += letter;
            return word.length();
        }

        private boolean narrow(int number) {
            index(number, blends);
            String said = word;
            word = "";
            int at = List.of("mild", "hot", "fresh", "red").indexOf(said);
            if (at < 0) {
                return false;
            }
            int what = new int[] {0, 0, 1, 2}[at];
            int low = new int[] {0, 60, 50, 60}[at];
            int high = new int[] {30, 99, 99, 99}[at];
            SlowBlend blend = blends.get(number);
            TreeSet<Integer> both = new TreeSet<>();
            for (int i = low; i <= high; i++) {
                if (i >= blend.low[what] && i <= blend.high[what]) {
                    both.add(i);
                }
            }
            if (both.isEmpty()) {
                return false;
            }
            blend.low[what] = both.first();
            blend.high[what] = both.last();
            blend.tested.clear();
            return true;
        }

        private static boolean isIn(int[] numbers, SlowBlend blend) {
            boolean is = true;
            for (int what = 0; what < 3; what++) {
                is &= blend.low[what] <= numbers[what] && numbers[what] <= blend.high[what];
            }
            return is;
        }

        private boolean isIn(int batch, int blend) {
            return isIn(batches.get(batch).numbers, blends.get(blend));
        }

        private int ship(int number, int blend, int kitchen, int grams) {
            index(number, batches);
            index(blend, blends);
            kitchen(kitchen);
            range(grams, 1, Integer.MAX_VALUE);
            SlowBatch batch = batches.get(number);
            able(!isHeld(batch.lots) && blends.get(blend).tested.contains(number) && isIn(number, blend));
            able(batch.left >= grams);
            int cost = take(batch, grams);
            kitchens[kitchen].got += grams;
            kitchens[kitchen].owes += cost;
            kitchens[kitchen].from.add(batch);
            return cost;
        }

        private boolean gotOf(int kitchen, int lot) {
            boolean is = false;
            for (SlowBatch batch : kitchens[kitchen].from) {
                is |= batch.lots.contains(lot);
            }
            return is;
        }

        private int recall(int lot) {
            index(lot, lots);
            int count = 0;
            for (int i = 0; i < 6; i++) {
                count += gotOf(i, lot) ? 1 : 0;
            }
            return count;
        }

        private int addOffer(int[] v) {
            range(v[0], 0, 5);
            range(v[1], 10, 500);
            range(v[2], 1, 999);
            range(v[3], 1, 9);
            state(offers.size() < 6);
            offers.add(v.clone());
            return offers.size() - 1;
        }

        /** Tries all ways, from fewer jars of low offers to more, and keeps the first of the cheapest. */
        private void need(int spice, int need) {
            range(spice, 0, 5);
            range(need, 1, 2000);
            best = null;
            bestCost = Long.MAX_VALUE;
            tryWay(spice, need, 0, new int[6], 0, 0);
            if (best == null) {
                throw new NoSuchElementException();
            }
        }

        private void tryWay(int spice, int need, int at, int[] counts, int grams, long cost) {
            if (cost >= bestCost) {
                return;
            }
            if (grams >= need) {
                best = counts.clone();
                bestCost = cost;
                return;
            }
            if (at == offers.size()) {
                return;
            }
            int[] offer = offers.get(at);
            for (int jars = 0; jars <= (offer[0] == spice ? offer[3] : 0); jars++) {
                counts[at] = jars;
                tryWay(spice, need, at + 1, counts, grams + jars * offer[1], cost + jars * offer[2]);
            }
            counts[at] = 0;
        }

        private double bound(int spice, int need) {
            List<int[]> sorted = new ArrayList<>();
            for (int[] offer : offers) {
                if (offer[0] == spice) {
                    sorted.add(offer);
                }
            }
            sorted.sort((a, b) -> Integer.compare(a[2] * b[1], b[2] * a[1]));
            double sum = 0;
            for (int[] offer : sorted) {
                int taken = 0;
                while (need > 0 && taken < offer[1] * offer[3]) {
                    taken++;
                    need--;
                }
                sum += (double) (taken * offer[2]) / (double) offer[1];
            }
            return sum;
        }

        private void mixture(SlowBlend blend) {
            best = null;
            bestCost = Long.MAX_VALUE;
            List<int[]> numbers = new ArrayList<>();
            for (SlowLot lot : lots) {
                numbers.add(faded(lot));
            }
            tryMixture(blend, numbers, 0, 10, 3, new int[12]);
            if (best == null) {
                throw new NoSuchElementException();
            }
        }

        /** Goes from more parts of low lots to fewer, so that the first of the cheapest is the one. */
        private void tryMixture(SlowBlend blend, List<int[]> numbers, int at, int rest, int kinds, int[] parts) {
            if (rest == 0) {
                weigh(blend, numbers, parts);
                return;
            }
            if (at == lots.size() || kinds == 0) {
                return;
            }
            if (!lots.get(at).held && lots.get(at).closed > 0) {
                for (int count = rest; count > 0; count--) {
                    parts[at] = count;
                    tryMixture(blend, numbers, at + 1, rest - count, kinds - 1, parts);
                }
                parts[at] = 0;
            }
            tryMixture(blend, numbers, at + 1, rest, kinds, parts);
        }

        private void weigh(SlowBlend blend, List<int[]> numbers, int[] parts) {
            long cost = 0;
            int[] mixed = new int[3];
            for (int i = 0; i < lots.size(); i++) {
                cost += parts[i] * lots.get(i).price * 10 / lots.get(i).grams;
                for (int what = 0; what < 3; what++) {
                    mixed[what] += parts[i] * numbers.get(i)[what];
                }
            }
            for (int what = 0; what < 3; what++) {
                mixed[what] /= 10;
            }
            if (cost < bestCost && isIn(mixed, blend)) {
                bestCost = cost;
                best = parts.clone();
            }
        }

        private boolean isOdd(int number) {
            for (int what = 0; what < 3; what++) {
                TreeSet<Integer> others = new TreeSet<>();
                int count = 0;
                for (int i = 0; i < lots.size(); i++) {
                    if (i != number && lots.get(i).spice == lots.get(number).spice) {
                        others.add(lots.get(i).came[what]);
                        count++;
                    }
                }
                int own = lots.get(number).came[what];
                if (count >= 2 && (own < others.first() || own > others.last())) {
                    return true;
                }
            }
            return false;
        }

        private static int chance(int right, int all) {
            range(all, 1, 20);
            range(right, 0, all);
            BigInteger[] row = {BigInteger.ONE};
            for (int guess = 0; guess < all; guess++) {
                BigInteger[] next = new BigInteger[row.length + 1];
                java.util.Arrays.fill(next, BigInteger.ZERO);
                for (int i = 0; i < row.length; i++) {
                    next[i] = next[i].add(row[i].shiftLeft(1));
                    next[i + 1] = next[i + 1].add(row[i]);
                }
                row = next;
            }
            BigInteger good = BigInteger.ZERO;
            for (int i = right; i <= all; i++) {
                good = good.add(row[i]);
            }
            return good.multiply(BigInteger.valueOf(1000000)).divide(BigInteger.valueOf(3).pow(all)).intValueExact();
        }

        private int account(int number, char kind) {
            index(number, lots);
            SlowLot lot = lots.get(number);
            int opened = 0;
            for (SlowJar jar : jars) {
                opened += jar.lot == number ? jar.left : 0;
            }
            int[] sums = {lot.bought * lot.grams, lot.closed * lot.grams, opened, lot.thrown, lot.put};
            range("bcotp".indexOf(kind), 0, 4);
            return sums["bcotp".indexOf(kind)];
        }

        private long checksum() {
            List<Long> all = new ArrayList<>();
            lots.forEach(lot -> all.add((long) lot.closed));
            jars.forEach(jar -> all.add((long) jar.left));
            for (SlowBatch batch : batches) {
                all.add((long) batch.left);
                for (int number : batch.numbers) {
                    all.add((long) number);
                }
            }
            for (SlowKitchen kitchen : kitchens) {
                all.add((long) kitchen.got);
                all.add(kitchen.owes);
            }
            all.add((long) week);
            long sum = 7;
            for (long one : all) {
                sum = sum * 31 + one;
            }
            return sum;
        }

        private float shippedShare() {
            int made = 0;
            int got = 0;
            for (SlowBatch batch : batches) {
                made += batch.made;
            }
            for (SlowKitchen kitchen : kitchens) {
                got += kitchen.got;
            }
            if (batches.isEmpty()) {
                throw new NoSuchElementException();
            }
            return (float) got / (float) made;
        }

        private double meanOil() {
            int sum = 0;
            for (SlowLot lot : lots) {
                sum += faded(lot)[1];
            }
            if (lots.isEmpty()) {
                throw new NoSuchElementException();
            }
            return (double) sum / (double) lots.size();
        }
    }
}
