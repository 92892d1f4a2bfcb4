import java.util.ArrayList;
import java.util.NoSuchElementException;

/** A house that mixes spices for kitchens. The document of the project says what each call promises. */
public final class Spicebourse {
    private static final int NUMBERS = 3;
    private static final int HEAT = 0;
    private static final int OIL = 1;
    private static final int COLOUR = 2;
    private static final int TOP = 99;
    private static final int SPICES = 6;
    private static final int KITCHENS = 6;
    private static final int MAX_LOTS = 12;
    private static final int MAX_JARS = 30;
    private static final int MAX_BATCHES = 20;
    private static final int MAX_BLENDS = 6;
    private static final int MAX_OFFERS = 6;
    private static final int MAX_PORTIONS = 6;
    private static final int MAX_DRUM = 5000;
    private static final int MAX_LETTERS = 8;
    private static final int MAX_NEED = 2000;
    private static final int MAX_WEEK = 500;
    private static final int WEEKS_OPEN = 8;
    private static final int MILLION = 1000000;
    private static final int SOUND_NEED = 10;
    private static final int PARTS = 10;
    private static final int PART_GRAMS = 10;
    private static final int MIXED_LOTS = 3;
    private static final long NO_WAY = 1L << 60;

    private final ArrayList<Lot> lots = new ArrayList<Lot>();
    private final ArrayList<Jar> jars = new ArrayList<Jar>();
    private final ArrayList<Batch> batches = new ArrayList<Batch>();
    private final ArrayList<Blend> blends = new ArrayList<Blend>();
    private final ArrayList<Offer> offers = new ArrayList<Offer>();
    private final Drum drum = new Drum();
    private final Mixer mixer = new Mixer();
    private final StringBuilder typed = new StringBuilder();
    private final int[] gotGrams = new int[KITCHENS];
    private final long[] owedSums = new long[KITCHENS];
    private final int[] gotLots = new int[KITCHENS];
    private final long[] ways = new long[MAX_NEED + 1];
    private int now;
    private int held;

    public Spicebourse() {
        now = 0;
        held = 0;
    }

    // Lots and jars.

    public int addLot(int spice, int heat, int oil, int colour, int grams, int price, int jars)
            throws IllegalArgumentException, IllegalStateException {
        if (!isSpice(spice) || !isNumber(heat) || !isNumber(oil) || !isNumber(colour)
                || !isJarOf(grams, price) || jars < 1 || jars > 20) {
            throw new IllegalArgumentException("a number of the lot is out of range");
        }
        if (lots.size() >= MAX_LOTS) {
            throw new IllegalStateException("there are 12 lots");
        }
        int[] came = {heat, oil, colour};
        lots.add(new Lot(lots.size(), spice, came, now, grams, price, jars));
        return lots.size() - 1;
    }

    public int closed(int lot) throws IndexOutOfBoundsException {
        return lotAt(lot).closed;
    }

    public int lotNumber(int lot, int what) throws IndexOutOfBoundsException, IllegalArgumentException {
        Lot asked = lotAt(lot);
        checkWhat(what);
        return asked.faded(what, now);
    }

    public boolean hold(int lot, boolean is) throws IndexOutOfBoundsException {
        Lot asked = lotAt(lot);
        boolean was = isHeld(asked.bit());
        held = is ? held | asked.bit() : held & ~asked.bit();
        return was;
    }

    public int openJar(int lot, boolean isFresh)
            throws IndexOutOfBoundsException, UnsupportedOperationException, IllegalStateException {
        Lot asked = lotAt(lot);
        if (isHeld(asked.bit()) || asked.closed < 1 || (!isFresh && hasOlder(asked))) {
            throw new UnsupportedOperationException("no jar of this lot may be opened");
        }
        if (jars.size() >= MAX_JARS) {
            throw new IllegalStateException("30 jars were opened");
        }
        asked.closed--;
        jars.add(new Jar(asked, now));
        return jars.size() - 1;
    }

    public int jarLeft(int jar) throws IndexOutOfBoundsException {
        return jarAt(jar).left;
    }

    public int jarNumber(int jar, int what) throws IndexOutOfBoundsException, IllegalArgumentException {
        Jar asked = jarAt(jar);
        checkWhat(what);
        return asked.faded(what, now);
    }

    public int throwJar(int jar) throws IndexOutOfBoundsException {
        return jarAt(jar).discard();
    }

    public int pass(int weeks) throws IllegalArgumentException, IllegalStateException {
        if (weeks < 1 || weeks > 20) {
            throw new IllegalArgumentException("1 to 20 weeks pass");
        }
        if (now + weeks > MAX_WEEK) {
            throw new IllegalStateException("the week would be above 500");
        }
        now += weeks;
        for (int i = 0; i < jars.size(); i++) {
            Jar jar = jars.get(i);
            if (now - jar.opened >= WEEKS_OPEN) {
                jar.discard();
            }
        }
        return now;
    }

    public int week() {
        return now;
    }

    // Drum and batches.

    public int fromJar(int jar, int grams) throws IndexOutOfBoundsException, IllegalArgumentException,
            UnsupportedOperationException, IllegalStateException {
        Jar source = jarAt(jar);
        checkGrams(grams);
        if (isHeld(source.lot.bit()) || grams > source.left) {
            throw new UnsupportedOperationException("the jar cannot give as many grams");
        }
        checkDrum(grams);
        for (int what = 0; what < NUMBERS; what++) {
            drum.blendIn(what, source.faded(what, now), grams);
        }
        drum.addPortion(grams, source.lot.costOf(grams), source.lot.bit());
        source.left -= grams;
        source.lot.used += grams;
        return drum.grams;
    }

    public int fromBatch(int batch, int grams) throws IndexOutOfBoundsException, IllegalArgumentException,
            UnsupportedOperationException, IllegalStateException {
        Batch source = batchAt(batch);
        checkGrams(grams);
        if (isHeld(source.lots) || grams > source.left) {
            throw new UnsupportedOperationException("the batch cannot give as many grams");
        }
        checkDrum(grams);
        for (int what = 0; what < NUMBERS; what++) {
            drum.blendIn(what, source.number(what), grams);
        }
        drum.addPortion(grams, source.take(grams), source.lots);
        return drum.grams;
    }

    public int inDrum() {
        return drum.grams;
    }

    public int empty() {
        int grams = drum.grams;
        drum.clear();
        return grams;
    }

    public int mix() throws UnsupportedOperationException, IllegalStateException {
        if (drum.grams < 1 || isHeld(drum.lots)) {
            throw new UnsupportedOperationException("the drum cannot be mixed");
        }
        if (batches.size() >= MAX_BATCHES) {
            throw new IllegalStateException("there are 20 batches");
        }
        batches.add(drum.toBatch());
        drum.clear();
        return batches.size() - 1;
    }

    public int batchLeft(int batch) throws IndexOutOfBoundsException {
        return batchAt(batch).left;
    }

    public int batchNumber(int batch, int what) throws IndexOutOfBoundsException, IllegalArgumentException {
        Batch asked = batchAt(batch);
        checkWhat(what);
        return asked.number(what);
    }

    public boolean hasLot(int batch, int lot) throws IndexOutOfBoundsException {
        Batch asked = batchAt(batch);
        return (asked.lots & lotAt(lot).bit()) != 0;
    }

    public int throwBatch(int batch) throws IndexOutOfBoundsException {
        return batchAt(batch).discard();
    }

    // Blends.

    public int addBlend() throws IllegalStateException {
        if (blends.size() >= MAX_BLENDS) {
            throw new IllegalStateException("there are 6 blends");
        }
        blends.add(new Blend());
        return blends.size() - 1;
    }

    public int type(char letter) throws IllegalArgumentException, IllegalStateException {
        if (letter < 'a' || letter > 'z') {
            throw new IllegalArgumentException("this is no small letter");
        }
        if (typed.length() >= MAX_LETTERS) {
            throw new IllegalStateException("8 letters are typed");
        }
        typed.append(letter);
        return typed.length();
    }

    public boolean narrow(int blend) throws IndexOutOfBoundsException {
        Blend asked = blendAt(blend);
        String word = typed.toString();
        typed.setLength(0);
        return narrowBy(asked, word);
    }

    public int band(int blend, int what, boolean isHigh)
            throws IndexOutOfBoundsException, IllegalArgumentException {
        Blend asked = blendAt(blend);
        checkWhat(what);
        return isHigh ? asked.highEnd(what) : asked.lowEnd(what);
    }

    public boolean isIn(int batch, int blend) throws IndexOutOfBoundsException {
        Batch asked = batchAt(batch);
        return blendAt(blend).takes(asked);
    }

    public boolean test(int batch, int blend) throws IndexOutOfBoundsException {
        Batch asked = batchAt(batch);
        Blend promise = blendAt(blend);
        promise.tested |= 1 << batch;
        return promise.takes(asked);
    }

    public int ship(int batch, int blend, int kitchen, int grams)
            throws IndexOutOfBoundsException, IllegalArgumentException, UnsupportedOperationException {
        Batch shipped = batchAt(batch);
        Blend promise = blendAt(blend);
        checkKitchen(kitchen);
        checkGrams(grams);
        if (isHeld(shipped.lots) || (promise.tested & 1 << batch) == 0 || !promise.takes(shipped)
                || grams > shipped.left) {
            throw new UnsupportedOperationException("the batch cannot ship so");
        }
        int cost = shipped.take(grams);
        promise.shipped += grams;
        gotGrams[kitchen] += grams;
        owedSums[kitchen] += cost;
        gotLots[kitchen] |= shipped.lots;
        return cost;
    }

    public int got(int kitchen) throws IndexOutOfBoundsException {
        checkKitchen(kitchen);
        return gotGrams[kitchen];
    }

    public long owes(int kitchen) throws IndexOutOfBoundsException {
        checkKitchen(kitchen);
        return owedSums[kitchen];
    }

    public boolean gotOf(int kitchen, int lot) throws IndexOutOfBoundsException {
        checkKitchen(kitchen);
        return (gotLots[kitchen] & lotAt(lot).bit()) != 0;
    }

    public int recall(int lot) throws IndexOutOfBoundsException {
        Lot asked = lotAt(lot);
        int kitchens = 0;
        for (int i = 0; i < KITCHENS; i++) {
            if ((gotLots[i] & asked.bit()) != 0) {
                kitchens++;
            }
        }
        return kitchens;
    }

    // Offers and mixtures.

    public int addOffer(int spice, int grams, int price, int jars)
            throws IllegalArgumentException, IllegalStateException {
        if (!isSpice(spice) || !isJarOf(grams, price) || jars < 1 || jars > 9) {
            throw new IllegalArgumentException("a number of the offer is out of range");
        }
        if (offers.size() >= MAX_OFFERS) {
            throw new IllegalStateException("there are 6 offers");
        }
        offers.add(new Offer(spice, grams, price, jars));
        return offers.size() - 1;
    }

    public int cheapest(int spice, int need) throws IllegalArgumentException, NoSuchElementException {
        checkNeed(spice, need);
        checkOffered(spice, need);
        return costOfWay(cheapestWay(spice, need));
    }

    public int jarsOf(int spice, int need, int offer)
            throws IndexOutOfBoundsException, IllegalArgumentException, NoSuchElementException {
        if (offer < 0 || offer >= offers.size()) {
            throw new IndexOutOfBoundsException("there is no such offer");
        }
        checkNeed(spice, need);
        checkOffered(spice, need);
        return (int) (share(cheapestWay(spice, need), 1, digit(offer)) % 10);
    }

    public double bound(int spice, int need) throws IllegalArgumentException, NoSuchElementException {
        checkNeed(spice, need);
        checkOffered(spice, need);
        return boundBelow(spice, need);
    }

    public int mixtureCost(int blend) throws IndexOutOfBoundsException, NoSuchElementException {
        findMixture(blendAt(blend));
        return mixer.cost;
    }

    public int mixturePart(int blend, int lot) throws IndexOutOfBoundsException, NoSuchElementException {
        Blend asked = blendAt(blend);
        Lot part = lotAt(lot);
        findMixture(asked);
        return mixer.partsOf(part.index);
    }

    public boolean isOdd(int lot) throws IndexOutOfBoundsException {
        Lot asked = lotAt(lot);
        boolean isOne = false;
        for (int what = 0; what < NUMBERS; what++) {
            isOne = isOne || isApart(asked, what);
        }
        return isOne;
    }

    public int chance(int right, int all) throws IllegalArgumentException {
        if (all < 1 || all > 20 || right < 0 || right > all) {
            throw new IllegalArgumentException("there are no such guesses");
        }
        long outcomes = 1;
        long choices = 1;
        long good = 0;
        for (int i = 0; i <= all; i++) {
            if (i >= right) {
                // A wrong guess can be made in two ways, a right one in one.
                good += choices << (all - i);
            }
            choices = share(choices, all - i, i + 1);
            outcomes = i < all ? outcomes * 3 : outcomes;
        }
        return (int) share(good, MILLION, outcomes);
    }

    // Sums.

    public int account(int lot, char kind) throws IndexOutOfBoundsException, IllegalArgumentException {
        Lot asked = lotAt(lot);
        if (kind == 'b') {
            return asked.bought();
        }
        if (kind == 'c') {
            return asked.inClosed();
        }
        if (kind == 'o') {
            return inOpened(asked);
        }
        if (kind == 't') {
            return asked.thrown;
        }
        if (kind != 'p') {
            throw new IllegalArgumentException("there is no such account");
        }
        return asked.used;
    }

    public long checksum() {
        long sum = 7;
        for (int i = 0; i < lots.size(); i++) {
            sum = 31 * sum + lots.get(i).closed;
        }
        for (int i = 0; i < jars.size(); i++) {
            sum = 31 * sum + jars.get(i).left;
        }
        for (int i = 0; i < batches.size(); i++) {
            Batch batch = batches.get(i);
            sum = 31 * sum + batch.left;
            for (int what = 0; what < NUMBERS; what++) {
                sum = 31 * sum + batch.number(what);
            }
        }
        for (int i = 0; i < KITCHENS; i++) {
            sum = 31 * sum + gotGrams[i];
            sum = 31 * sum + owedSums[i];
        }
        return 31 * sum + now;
    }

    public float shippedShare() throws NoSuchElementException {
        int made = 0;
        for (int i = 0; i < batches.size(); i++) {
            made += batches.get(i).made;
        }
        if (made < 1) {
            throw new NoSuchElementException("there are no batches");
        }
        return (float) shippedGrams() / (float) made;
    }

    public double meanOil() throws NoSuchElementException {
        if (lots.isEmpty()) {
            throw new NoSuchElementException("there are no lots");
        }
        int sum = 0;
        for (int i = 0; i < lots.size(); i++) {
            sum += lots.get(i).faded(OIL, now);
        }
        return (double) sum / (double) lots.size();
    }

    public boolean isSound() {
        return areLotsSound() && areKitchensSound() && areBandsSound() && areOffersSound();
    }

    // What several of the calls above need.

    private Lot lotAt(int lot) throws IndexOutOfBoundsException {
        if (lot < 0 || lot >= lots.size()) {
            throw new IndexOutOfBoundsException("there is no such lot");
        }
        return lots.get(lot);
    }

    private Jar jarAt(int jar) throws IndexOutOfBoundsException {
        if (jar < 0 || jar >= jars.size()) {
            throw new IndexOutOfBoundsException("there is no such opened jar");
        }
        return jars.get(jar);
    }

    private Batch batchAt(int batch) throws IndexOutOfBoundsException {
        if (batch < 0 || batch >= batches.size()) {
            throw new IndexOutOfBoundsException("there is no such batch");
        }
        return batches.get(batch);
    }

    private Blend blendAt(int blend) throws IndexOutOfBoundsException {
        if (blend < 0 || blend >= blends.size()) {
            throw new IndexOutOfBoundsException("there is no such blend");
        }
        return blends.get(blend);
    }

    private static void checkKitchen(int kitchen) throws IndexOutOfBoundsException {
        if (kitchen < 0 || kitchen >= KITCHENS) {
            throw new IndexOutOfBoundsException("there is no such kitchen");
        }
    }

    private static void checkWhat(int what) throws IllegalArgumentException {
        if (what < 0 || what >= NUMBERS) {
            throw new IllegalArgumentException("there is no such number");
        }
    }

    private static void checkGrams(int grams) throws IllegalArgumentException {
        if (grams < 1) {
            throw new IllegalArgumentException("grams are below 1");
        }
    }

    private static void checkNeed(int spice, int need) throws IllegalArgumentException {
        if (!isSpice(spice) || need < 1 || need > MAX_NEED) {
            throw new IllegalArgumentException("there is no such need");
        }
    }

    private void checkOffered(int spice, int need) throws NoSuchElementException {
        if (offeredGrams(spice) < need) {
            throw new NoSuchElementException("offers cannot cover the need");
        }
    }

    private void checkDrum(int grams) throws IllegalStateException {
        if (drum.portions >= MAX_PORTIONS || grams > MAX_DRUM - drum.grams) {
            throw new IllegalStateException("the drum is full");
        }
    }

    private static boolean isSpice(int spice) {
        return spice >= 0 && spice < SPICES;
    }

    private static boolean isNumber(int number) {
        return number >= 0 && number <= TOP;
    }

    private static boolean isJarOf(int grams, int price) {
        return grams >= 10 && grams <= 500 && price >= 1 && price <= 999;
    }

    private boolean isHeld(int lotBits) {
        return (held & lotBits) != 0;
    }

    /** The part of a sum that belongs to a part of a whole, cut. */
    private static long share(long sum, long part, long whole) {
        return whole < 1 ? 0 : sum * part / whole;
    }

    private boolean hasOlder(Lot asked) {
        for (int i = 0; i < lots.size(); i++) {
            Lot other = lots.get(i);
            if (other.spice == asked.spice && other.week < asked.week && other.closed > 0
                    && !isHeld(other.bit())) {
                return true;
            }
        }
        return false;
    }

    private static boolean narrowBy(Blend blend, String word) {
        if (word.equals("mild")) {
            return blend.limit(HEAT, 0, 30);
        }
        if (word.equals("hot")) {
            return blend.limit(HEAT, 60, TOP);
        }
        if (word.equals("fresh")) {
            return blend.limit(OIL, 50, TOP);
        }
        if (word.equals("red")) {
            return blend.limit(COLOUR, 60, TOP);
        }
        return false;
    }

    private boolean isApart(Lot asked, int what) {
        int others = 0;
        int lower = 0;
        int higher = 0;
        for (int i = 0; i < lots.size(); i++) {
            Lot other = lots.get(i);
            if (other.index != asked.index && other.spice == asked.spice) {
                others++;
                lower += other.cameWith(what) < asked.cameWith(what) ? 1 : 0;
                higher += other.cameWith(what) > asked.cameWith(what) ? 1 : 0;
            }
        }
        return others >= 2 && (lower == others || higher == others);
    }

    private int offeredGrams(int spice) {
        int grams = 0;
        for (int i = 0; i < offers.size(); i++) {
            Offer offer = offers.get(i);
            grams += offer.spice == spice ? offer.allGrams() : 0;
        }
        return grams;
    }

    /** One, ten, and so on: the lower the number of an offer, the higher its digit in a way. */
    private static long digit(int offer) {
        long digit = 1;
        for (int i = offer + 1; i < MAX_OFFERS; i++) {
            digit *= 10;
        }
        return digit;
    }

    private static int costOfWay(long way) {
        return (int) (way / MILLION);
    }

    /**
     * The cheapest way as one number: millions of its cost, and a digit for the jars of each offer, so that the
     * least number is the cheapest way and, of like ones, that with fewer jars of the offers with low numbers.
     */
    private long cheapestWay(int spice, int need) {
        if (need < 1 || need > MAX_NEED) {
            return NO_WAY;
        }
        ways[0] = 0;
        for (int grams = 1; grams <= need; grams++) {
            ways[grams] = NO_WAY;
        }
        for (int i = 0; i < offers.size(); i++) {
            Offer offer = offers.get(i);
            if (offer.spice == spice) {
                addJars(offer, (long) offer.price * MILLION + digit(i), need);
            }
        }
        return ways[need];
    }

    /** Needs are gone through from above, so that the ways to less have no jar of this offer yet. */
    private void addJars(Offer offer, long jar, int need) {
        for (int grams = need; grams >= 1; grams--) {
            long least = ways[grams];
            int rest = grams;
            for (int count = 1; count <= offer.jars && rest > 0; count++) {
                rest = Math.max(0, rest - offer.grams);
                least = Math.min(least, ways[rest] + count * jar);
            }
            ways[grams] = least;
        }
    }

    private double boundBelow(int spice, int need) {
        double sum = 0.0;
        int rest = need;
        int taken = 0;
        for (int i = 0; i < MAX_OFFERS && rest > 0; i++) {
            int next = cheapestByGram(spice, taken);
            if (next < 0 || next >= offers.size()) {
                return sum;
            }
            Offer offer = offers.get(next);
            int grams = Math.min(rest, offer.allGrams());
            sum += offer.costOf(grams);
            rest -= grams;
            taken |= 1 << next;
        }
        return sum;
    }

    /** The number of the offer whose gram costs least, without those that are taken; -1 if there is none. */
    private int cheapestByGram(int spice, int taken) {
        int best = -1;
        int bestPrice = 0;
        int bestGrams = 0;
        for (int i = 0; i < offers.size(); i++) {
            Offer offer = offers.get(i);
            boolean isFree = offer.spice == spice && (taken & 1 << i) == 0;
            if (isFree && (best < 0 || offer.price * bestGrams < bestPrice * offer.grams)) {
                best = i;
                bestPrice = offer.price;
                bestGrams = offer.grams;
            }
        }
        return best;
    }

    private void findMixture(Blend blend) throws NoSuchElementException {
        mixer.begin(blend);
        for (int i = 0; i < lots.size(); i++) {
            Lot lot = lots.get(i);
            if (lot.closed > 0 && !isHeld(lot.bit())) {
                mixer.addUsable(lot, now);
            }
        }
        mixer.search();
        if (!mixer.hasFound()) {
            throw new NoSuchElementException("there is no such mixture");
        }
    }

    private int inOpened(Lot lot) {
        int grams = 0;
        for (int i = 0; i < jars.size(); i++) {
            Jar jar = jars.get(i);
            grams += jar.lot.index == lot.index ? jar.left : 0;
        }
        return grams;
    }

    private int shippedGrams() {
        int grams = 0;
        for (int i = 0; i < blends.size(); i++) {
            grams += blends.get(i).shipped;
        }
        return grams;
    }

    private boolean areLotsSound() {
        for (int i = 0; i < lots.size(); i++) {
            Lot lot = lots.get(i);
            if (lot.bought() != lot.inClosed() + inOpened(lot) + lot.thrown + lot.used) {
                return false;
            }
        }
        return true;
    }

    private boolean areKitchensSound() {
        int grams = 0;
        for (int i = 0; i < KITCHENS; i++) {
            grams += gotGrams[i];
        }
        return grams == shippedGrams();
    }

    private boolean areBandsSound() {
        for (int i = 0; i < blends.size(); i++) {
            if (!blends.get(i).hasNumbers()) {
                return false;
            }
        }
        return true;
    }

    private boolean areOffersSound() {
        for (int spice = 0; spice < SPICES; spice++) {
            if (offeredGrams(spice) >= SOUND_NEED
                    && (double) costOfWay(cheapestWay(spice, SOUND_NEED)) < boundBelow(spice, SOUND_NEED)) {
                return false;
            }
        }
        return true;
    }

    private static final class Lot {
        final int index;
        final int spice;
        private final int[] came;
        final int week;
        final int grams;
        private final int price;
        private final int jars;
        int closed;
        int thrown;
        int used;

        Lot(int index, int spice, int[] came, int week, int grams, int price, int jars) {
            this.index = index;
            this.spice = spice;
            this.came = came;
            this.week = week;
            this.grams = grams;
            this.price = price;
            this.jars = jars;
            this.closed = jars;
        }

        /** Sets of lots are kept as bits, one for each lot. */
        int bit() {
            return 1 << index;
        }

        int cameWith(int what) {
            return what < 0 || what >= came.length ? 0 : came[what];
        }

        int faded(int what, int now) {
            int weeks = now - week;
            int off = weeks / 3;
            if (what == HEAT) {
                off = weeks / 4;
            } else if (what == OIL) {
                off = weeks / 2;
            }
            return Math.max(0, cameWith(what) - off);
        }

        int costOf(int portion) {
            return (int) share(price, portion, grams);
        }

        int bought() {
            return grams * jars;
        }

        int inClosed() {
            return grams * closed;
        }
    }

    private static final class Jar {
        final Lot lot;
        final int opened;
        int left;

        Jar(Lot lot, int opened) {
            this.lot = lot;
            this.opened = opened;
            this.left = lot.grams;
        }

        int faded(int what, int now) {
            return Math.max(0, lot.faded(what, now) - (now - opened));
        }

        int discard() {
            int grams = left;
            lot.thrown += grams;
            left = 0;
            return grams;
        }
    }

    /** Of its portions the drum keeps only the sums, as a batch is made of nothing else. */
    private static final class Drum {
        private final int[] sums = new int[NUMBERS];
        int portions;
        int grams;
        private int cost;
        int lots;

        void blendIn(int what, int number, int portion) {
            if (what >= 0 && what < sums.length) {
                sums[what] += number * portion;
            }
        }

        void addPortion(int portion, int portionCost, int portionLots) {
            portions++;
            grams += portion;
            cost += portionCost;
            lots |= portionLots;
        }

        Batch toBatch() {
            return new Batch(grams, cost, lots, mean(HEAT), mean(OIL), mean(COLOUR));
        }

        private int mean(int what) {
            return what < 0 || what >= sums.length ? 0 : (int) share(sums[what], 1, grams);
        }

        void clear() {
            for (int what = 0; what < sums.length; what++) {
                sums[what] = 0;
            }
            portions = 0;
            grams = 0;
            cost = 0;
            lots = 0;
        }
    }

    private static final class Batch {
        final int made;
        final int lots;
        private final int heat;
        private final int oil;
        private final int colour;
        private int cost;
        int left;

        Batch(int grams, int cost, int lots, int heat, int oil, int colour) {
            this.made = grams;
            this.left = grams;
            this.cost = cost;
            this.lots = lots;
            this.heat = heat;
            this.oil = oil;
            this.colour = colour;
        }

        int number(int what) {
            if (what == HEAT) {
                return heat;
            }
            return what == OIL ? oil : colour;
        }

        /** Takes grams out and returns the part of the cost that goes with them. */
        int take(int grams) {
            int part = (int) share(cost, grams, left);
            cost -= part;
            left -= grams;
            return part;
        }

        int discard() {
            int grams = left;
            cost = 0;
            left = 0;
            return grams;
        }
    }

    private static final class Blend {
        private final int[] low = {0, 0, 0};
        private final int[] high = {TOP, TOP, TOP};
        int tested;
        int shipped;

        int lowEnd(int what) {
            return what < 0 || what >= low.length ? 0 : low[what];
        }

        int highEnd(int what) {
            return what < 0 || what >= high.length ? 0 : high[what];
        }

        boolean holds(int what, int number) {
            return number >= lowEnd(what) && number <= highEnd(what);
        }

        boolean takes(Batch batch) {
            return holds(HEAT, batch.number(HEAT)) && holds(OIL, batch.number(OIL))
                    && holds(COLOUR, batch.number(COLOUR));
        }

        /** Tests that came before a word are void behind it, even if the band stays as it was. */
        boolean limit(int what, int from, int to) {
            int newLow = Math.max(lowEnd(what), from);
            int newHigh = Math.min(highEnd(what), to);
            if (newLow > newHigh || what < 0 || what >= low.length || what >= high.length) {
                return false;
            }
            low[what] = newLow;
            high[what] = newHigh;
            tested = 0;
            return true;
        }

        boolean hasNumbers() {
            for (int what = 0; what < NUMBERS; what++) {
                if (lowEnd(what) > highEnd(what)) {
                    return false;
                }
            }
            return true;
        }
    }

    private static final class Offer {
        final int spice;
        final int grams;
        final int price;
        final int jars;

        Offer(int spice, int grams, int price, int jars) {
            this.spice = spice;
            this.grams = grams;
            this.price = price;
            this.jars = jars;
        }

        int allGrams() {
            return grams * jars;
        }

        /** What grams of it would cost if jars could be split. */
        double costOf(int taken) {
            return grams < 1 ? 0.0 : (double) (taken * price) / (double) grams;
        }
    }

    /**
     * The search for the cheapest mixture. It goes from more parts of lots with low numbers to fewer, so of
     * mixtures that cost the same the first one is the one to take. Its rows serve one search after the other.
     */
    private static final class Mixer {
        private final int[] lots = new int[MAX_LOTS];
        private final int[][] numbers = new int[MAX_LOTS][NUMBERS];
        private final int[][] costs = new int[MAX_LOTS][PARTS + 1];
        private final int[] low = new int[NUMBERS];
        private final int[] high = new int[NUMBERS];
        private final int[] tried = new int[MIXED_LOTS];
        private final int[] triedParts = new int[MIXED_LOTS];
        private final int[] bestLots = new int[MIXED_LOTS];
        private final int[] bestParts = new int[MIXED_LOTS];
        private int count;
        private int found;
        int cost;

        void begin(Blend blend) {
            for (int what = 0; what < NUMBERS; what++) {
                low[what] = blend.lowEnd(what);
                high[what] = blend.highEnd(what);
            }
            count = 0;
            found = 0;
            cost = 0;
        }

        void addUsable(Lot lot, int now) {
            if (count >= MAX_LOTS) {
                return;
            }
            lots[count] = lot.index;
            for (int what = 0; what < NUMBERS; what++) {
                numbers[count][what] = lot.faded(what, now);
            }
            for (int parts = 0; parts <= PARTS; parts++) {
                costs[count][parts] = lot.costOf(parts * PART_GRAMS);
            }
            count++;
        }

        boolean hasFound() {
            return found > 0;
        }

        int partsOf(int lot) {
            for (int i = 0; i < found && i < MIXED_LOTS; i++) {
                if (bestLots[i] == lot) {
                    return bestParts[i];
                }
            }
            return 0;
        }

        void search() {
            for (int lot = 0; lot < count; lot++) {
                for (int parts = PARTS; parts >= 1; parts--) {
                    tried[0] = lot;
                    triedParts[0] = parts;
                    if (parts == PARTS) {
                        weigh(1);
                    } else {
                        searchSecond(lot + 1, PARTS - parts);
                    }
                }
            }
        }

        private void searchSecond(int from, int rest) {
            for (int lot = from; lot < count; lot++) {
                for (int parts = rest; parts >= 1; parts--) {
                    tried[1] = lot;
                    triedParts[1] = parts;
                    if (parts == rest) {
                        weigh(2);
                    } else {
                        searchThird(lot + 1, rest - parts);
                    }
                }
            }
        }

        private void searchThird(int from, int rest) {
            for (int lot = from; lot < count; lot++) {
                tried[2] = lot;
                triedParts[2] = rest;
                weigh(3);
            }
        }

        private void weigh(int size) {
            int sum = 0;
            for (int i = 0; i < size && i < MIXED_LOTS; i++) {
                sum += costs[tried[i]][triedParts[i]];
            }
            if ((found < 1 || sum < cost) && isInBands(size)) {
                keep(size, sum);
            }
        }

        private boolean isInBands(int size) {
            for (int what = 0; what < NUMBERS; what++) {
                int sum = 0;
                for (int i = 0; i < size && i < MIXED_LOTS; i++) {
                    sum += triedParts[i] * numbers[tried[i]][what];
                }
                if (sum / PARTS < low[what] || sum / PARTS > high[what]) {
                    return false;
                }
            }
            return true;
        }

        private void keep(int size, int sum) {
            found = size;
            cost = sum;
            for (int i = 0; i < size && i < MIXED_LOTS; i++) {
                bestLots[i] = lots[tried[i]];
                bestParts[i] = triedParts[i];
            }
        }
    }
}
