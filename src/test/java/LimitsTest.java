/**
 * Each limit that the document names: the last value that is allowed and the first one that is not, on both ends,
 * and far outside; each "if there are .." at its count and one below it; what is empty, and what is full.
 */
public final class LimitsTest {
    private static final String INDEX = Runs.INDEX;
    private static final String ARGUMENT = Runs.ARGUMENT;
    private static final String STATE = Runs.STATE;
    private static final String UNABLE = Runs.UNABLE;
    private static final String NONE = Runs.NONE;
    /** Two of each thing; the batch 0 has 40 grams left that cost 22, the batch 1 has 5 that cost 2. */
    private static final String HOUSE = "addLot(0, 80, 60, 70, 50, 20, 2) = 0; pass(2) = 2; "
            + "addLot(0, 70, 90, 60, 40, 30, 3) = 1; openJar(0, false) = 0; openJar(1, true) = 1; "
            + "fromJar(0, 30) = 30; fromJar(1, 20) = 50; mix() = 0; fromJar(0, 5) = 5; mix() = 1; "
            + "addBlend() = 0; addBlend() = 1; test(0, 0) = true; test(1, 0) = true; test(0, 1) = true; "
            + "ship(0, 0, 1, 10) = 5; addOffer(0, 50, 20, 3) = 0; addOffer(5, 20, 9, 9) = 1; ";
    /** The batch 0 of 3000 grams, the batch 1 of 2000, and the jar 10 with 500. */
    private static final String BIG = "addLot(0, 50, 50, 50, 500, 10, 20) = 0; "
            + Runs.times(0, 10, "openJar(0, false) = #; ") + "fromJar(0, 500) = 500; fromJar(1, 500) = 1000; "
            + "fromJar(2, 500) = 1500; fromJar(3, 500) = 2000; fromJar(4, 500) = 2500; fromJar(5, 500) = 3000; "
            + "mix() = 0; fromJar(6, 500) = 500; fromJar(7, 500) = 1000; fromJar(8, 500) = 1500; "
            + "fromJar(9, 500) = 2000; mix() = 1; ";

    public static void main(String[] args) {
        numbersOfLots();
        lotsAndJars();
        drumAndBatches();
        blends();
        numbersOfOffers();
        needs();
        mixturesAndTastes();
        countsOfLotsAndJars();
        countsOfPortionsAndBatches();
        gramsOfTheDrum();
        countsOfBlendsLettersAndOffers();
        weeks();
        whatIsEmpty();
        whatIsUsedUp();
        Runs.end();
    }

    /** The number @ of a call may be from low to high; each try stands on a house of its own. */
    private static void ends(String before, String call, int low, int high, String refused, String atLow,
            String atHigh) {
        ends(before, call, low, high, refused, refused, atLow, atHigh);
    }

    private static void ends(String before, String call, int low, int high, String tooSmall, String tooLarge,
            String atLow, String atHigh) {
        Runs.play(call + ", the least", before, call.replace("@", "" + low) + " = " + atLow + ";");
        Runs.play(call + ", the most", before, call.replace("@", "" + high) + " = " + atHigh + ";");
        Runs.play(call + ", outside", before, call.replace("@", "" + (low - 1)) + tooSmall,
                call.replace("@", "" + (high + 1)) + tooLarge, call.replace("@", "-2147483648") + tooSmall,
                call.replace("@", "2147483647") + tooLarge);
    }

    private static void numbersOfLots() {
        ends("", "addLot(@, 1, 2, 3, 10, 1, 1)", 0, 5, ARGUMENT, "0", "0");
        ends("", "addLot(0, @, 2, 3, 10, 1, 1)", 0, 99, ARGUMENT, "0", "0; lotNumber(0, 0) = 99");
        ends("", "addLot(0, 1, @, 3, 10, 1, 1)", 0, 99, ARGUMENT, "0", "0; lotNumber(0, 1) = 99");
        ends("", "addLot(0, 1, 2, @, 10, 1, 1)", 0, 99, ARGUMENT, "0", "0; lotNumber(0, 2) = 99");
        ends("", "addLot(0, 1, 2, 3, @, 1, 1)", 10, 500, ARGUMENT, "0; account(0, 'b') = 10",
                "0; account(0, 'b') = 500");
        ends("addBlend() = 0; ", "addLot(0, 1, 2, 3, 10, @, 1)", 1, 999, ARGUMENT, "0; mixtureCost(0) = 10",
                "0; mixtureCost(0) = 9990");
        ends("", "addLot(0, 1, 2, 3, 10, 1, @)", 1, 20, ARGUMENT, "0; closed(0) = 1", "0; closed(0) = 20");
        Runs.play("the least lot", "addLot(0, 0, 0, 0, 10, 1, 1) = 0; lotNumber(0, 0) = 0; lotNumber(0, 1) = 0; ",
                "lotNumber(0, 2) = 0; openJar(0, false) = 0; jarLeft(0) = 10; jarNumber(0, 0) = 0;");
        Runs.play("the largest lot", "addLot(5, 99, 99, 99, 500, 999, 20) = 0; account(0, 'b') = 10000; ",
                "openJar(0, false) = 0; jarLeft(0) = 500; jarNumber(0, 2) = 99; account(0, 'c') = 9500;");
    }

    private static void lotsAndJars() {
        ends(HOUSE, "closed(@)", 0, 1, INDEX, "1", "2");
        ends(HOUSE, "lotNumber(@, 0)", 0, 1, INDEX, "80", "70");
        ends(HOUSE, "lotNumber(0, @)", 0, 2, ARGUMENT, "80", "70");
        ends(HOUSE, "hold(@, true)", 0, 1, INDEX, "false", "false; hold(1, true) = true; hold(0, true) = false");
        ends(HOUSE, "hold(@, false)", 0, 1, INDEX, "false", "false");
        ends(HOUSE, "openJar(@, true)", 0, 1, INDEX, "2; jarLeft(2) = 50", "2; jarLeft(2) = 40");
        ends(HOUSE, "jarLeft(@)", 0, 1, INDEX, "15", "20");
        ends(HOUSE, "jarNumber(@, 1)", 0, 1, INDEX, "59", "90");
        ends(HOUSE, "jarNumber(0, @)", 0, 2, ARGUMENT, "80", "70");
        ends(HOUSE, "throwJar(@)", 0, 1, INDEX, "15; jarLeft(1) = 20", "20; jarLeft(0) = 15");
        ends(HOUSE, "pass(@)", 1, 20, ARGUMENT, "3; week() = 3", "22; week() = 22");
        ends(HOUSE, "account(@, 'b')", 0, 1, INDEX, "100", "120");
        ends(HOUSE, "isOdd(@)", 0, 1, INDEX, "false", "false");
        Runs.play("account, the letters round its own", HOUSE, "account(0, 'b') = 100; account(0, 'c') = 50; ",
                "account(0, 'o') = 15; account(0, 't') = 0; account(0, 'p') = 35; account(0, 'a')" + ARGUMENT,
                "account(0, 'd')" + ARGUMENT, "account(0, 'n')" + ARGUMENT, "account(0, 'q')" + ARGUMENT,
                "account(0, 's')" + ARGUMENT, "account(0, 'u')" + ARGUMENT, "account(0, 'B')" + ARGUMENT,
                "account(0, 'P')" + ARGUMENT, "account(0, '\u0000')" + ARGUMENT, "account(0, '\uffff')" + ARGUMENT,
                "account(0, '\u0162')" + ARGUMENT);
    }

    private static void drumAndBatches() {
        ends(HOUSE, "fromJar(@, 1)", 0, 1, INDEX, "1; jarLeft(0) = 14", "1; jarLeft(1) = 19");
        ends(HOUSE, "fromJar(0, @)", 1, 15, ARGUMENT, UNABLE, "1; jarLeft(0) = 14", "15; jarLeft(0) = 0");
        ends(HOUSE, "fromBatch(@, 1)", 0, 1, INDEX, "1; batchLeft(0) = 39", "1; batchLeft(1) = 4");
        ends(HOUSE, "fromBatch(0, @)", 1, 40, ARGUMENT, UNABLE, "1; batchLeft(0) = 39", "40; batchLeft(0) = 0");
        ends(HOUSE, "batchLeft(@)", 0, 1, INDEX, "40", "5");
        ends(HOUSE, "batchNumber(@, 0)", 0, 1, INDEX, "76", "80");
        ends(HOUSE, "batchNumber(0, @)", 0, 2, ARGUMENT, "76", "66");
        ends(HOUSE, "hasLot(@, 1)", 0, 1, INDEX, "true", "false");
        ends(HOUSE, "hasLot(1, @)", 0, 1, INDEX, "true", "false");
        ends(HOUSE, "throwBatch(@)", 0, 1, INDEX, "40; batchLeft(1) = 5", "5; batchLeft(0) = 40");
    }

    private static void blends() {
        ends(HOUSE + "typing hot; ", "narrow(@)", 0, 1, INDEX, "true; band(0, 0, false) = 60",
                "true; band(1, 0, false) = 60; band(0, 0, false) = 0");
        ends(HOUSE, "band(@, 0, true)", 0, 1, INDEX, "99", "99");
        ends(HOUSE, "band(@, 0, false)", 0, 1, INDEX, "0", "0");
        ends(HOUSE, "band(0, @, true)", 0, 2, ARGUMENT, "99", "99");
        ends(HOUSE, "band(0, @, false)", 0, 2, ARGUMENT, "0", "0");
        ends(HOUSE, "isIn(@, 0)", 0, 1, INDEX, "true", "true");
        ends(HOUSE, "isIn(0, @)", 0, 1, INDEX, "true", "true");
        ends(HOUSE, "test(@, 1)", 0, 1, INDEX, "true", "true; ship(1, 1, 0, 5) = 2");
        ends(HOUSE, "test(1, @)", 0, 1, INDEX, "true", "true; ship(1, 1, 0, 5) = 2");
        ends(HOUSE, "ship(@, 0, 0, 5)", 0, 1, INDEX, "2", "2; batchLeft(1) = 0");
        ends(HOUSE, "ship(0, @, 0, 1)", 0, 1, INDEX, "0", "0");
        ends(HOUSE, "ship(0, 0, @, 4)", 0, 5, INDEX, "2; got(0) = 4; owes(0) = 2", "2; got(5) = 4; owes(5) = 2");
        ends(HOUSE, "ship(0, 0, 0, @)", 1, 40, ARGUMENT, UNABLE, "0; batchLeft(0) = 39; got(0) = 1",
                "22; batchLeft(0) = 0; got(0) = 40");
        String all = HOUSE + "ship(0, 0, 0, 1) = 0; ship(0, 0, 5, 2) = 1; ";
        ends(all, "got(@)", 0, 5, INDEX, "1", "2");
        ends(all, "owes(@)", 0, 5, INDEX, "0", "1");
        ends(all, "gotOf(@, 0)", 0, 5, INDEX, "true", "true");
        ends(all, "gotOf(1, @)", 0, 1, INDEX, "true", "true");
        ends(all, "recall(@)", 0, 1, INDEX, "3", "3");
        Runs.play("type, the letters round the small ones", "type('a') = 1; type('z') = 2; type('`')" + ARGUMENT,
                "type('{')" + ARGUMENT, "type('A')" + ARGUMENT, "type('Z')" + ARGUMENT, "type('0')" + ARGUMENT,
                "type('\u0000')" + ARGUMENT, "type('\uffff')" + ARGUMENT, "type('\u0161')" + ARGUMENT,
                "type('\u00e4')" + ARGUMENT, "type('b') = 3;");
    }

    private static void numbersOfOffers() {
        ends("", "addOffer(@, 10, 1, 1)", 0, 5, ARGUMENT, "0; cheapest(0, 10) = 1", "0; cheapest(5, 10) = 1");
        ends("", "addOffer(0, @, 1, 1)", 10, 500, ARGUMENT, "0; cheapest(0, 10) = 1; cheapest(0, 11)" + NONE,
                "0; cheapest(0, 500) = 1; cheapest(0, 501)" + NONE);
        ends("", "addOffer(0, 10, @, 1)", 1, 999, ARGUMENT, "0; cheapest(0, 1) = 1", "0; cheapest(0, 1) = 999");
        ends("", "addOffer(0, 10, 1, @)", 1, 9, ARGUMENT, "0; cheapest(0, 10) = 1; cheapest(0, 11)" + NONE,
                "0; cheapest(0, 90) = 9; jarsOf(0, 90, 0) = 9; cheapest(0, 91)" + NONE);
    }

    private static void needs() {
        String offers = HOUSE + "addOffer(4, 250, 7, 8) = 2; addOffer(3, 500, 999, 9) = 3; ";
        ends(offers, "cheapest(@, 1)", 0, 5, ARGUMENT, "20", "9");
        ends(offers, "cheapest(4, @)", 1, 2000, ARGUMENT, "7", "56");
        ends(offers, "cheapest(3, @)", 1, 2000, ARGUMENT, "999", "3996");
        ends(offers, "jarsOf(@, 1, 1)", 0, 5, ARGUMENT, "0", "1");
        ends(offers, "jarsOf(4, @, 2)", 1, 2000, ARGUMENT, "1", "8");
        ends(offers, "jarsOf(0, 1, @)", 0, 3, INDEX, "1", "0");
        ends(offers, "bound(@, 1)", 0, 5, ARGUMENT, "0.4", "0.45");
        ends(offers, "bound(4, @)", 1, 2000, ARGUMENT, "0.028", "56.0");
        Runs.play("just what the offers have", offers, "cheapest(0, 150) = 60; jarsOf(0, 150, 0) = 3; ",
                "bound(0, 150) = 60.0; cheapest(0, 151)" + NONE, "jarsOf(0, 151, 0)" + NONE, "bound(0, 151)" + NONE,
                "cheapest(1, 1)" + NONE, "jarsOf(1, 1, 0)" + NONE, "bound(1, 1)" + NONE);
        Runs.play("without offers", "cheapest(0, 1)" + NONE, "bound(0, 1)" + NONE, "jarsOf(0, 1, 0)" + INDEX,
                "isSound() = true;");
        Runs.play("just ten grams", "addOffer(0, 10, 999, 1) = 0; isSound() = true; cheapest(0, 10) = 999; ",
                "bound(0, 10) = 999.0; addOffer(0, 11, 999, 1) = 1; bound(0, 10) = " + 9990.0 / 11
                + "; cheapest(0, 10) = 999; jarsOf(0, 10, 0) = 0; isSound() = true;");
    }

    private static void mixturesAndTastes() {
        ends(HOUSE, "mixtureCost(@)", 0, 1, INDEX, "40", "40");
        ends(HOUSE, "mixturePart(@, 0)", 0, 1, INDEX, "10", "10");
        ends(HOUSE, "mixturePart(0, @)", 0, 1, INDEX, "10", "0");
        ends("", "chance(@, 20)", 0, 20, ARGUMENT, "1000000", "0");
        ends("", "chance(@, 1)", 0, 1, ARGUMENT, "1000000", "333333");
        ends("", "chance(0, @)", 1, 20, ARGUMENT, "1000000", "1000000");
        ends("", "chance(1, @)", 1, 20, ARGUMENT, "333333", "999699");
        ends("", "chance(20, @)", 20, 20, ARGUMENT, "0", "0");
    }

    private static void countsOfLotsAndJars() {
        String lot = "addLot(3, 1, 2, 3, 10, 1, 1)";
        Runs.play("12 lots", Runs.times(0, 10, lot + " = #; "), "closed(11)" + INDEX, lot + " = 11; closed(11) = 1; ",
                "closed(12)" + INDEX, lot + STATE, lot + STATE, "pass(20) = 20; " + lot + STATE, "closed(12)" + INDEX);
        String lots = "addLot(0, 9, 9, 9, 10, 1, 20) = 0; addLot(1, 9, 9, 9, 10, 1, 20) = 1; "
                + Runs.times(0, 14, "openJar(0, false) = #; ") + Runs.times(15, 28, "openJar(1, false) = #; ");
        Runs.play("30 opened jars of all lots together", lots, "jarLeft(29)" + INDEX, "openJar(0, false) = 29; ",
                "jarLeft(29) = 10; openJar(0, false)" + STATE, "openJar(1, true)" + STATE, "jarLeft(30)" + INDEX,
                "closed(0) = 4; closed(1) = 6;");
        Runs.play("30 opened jars, those without grams too", lots, "throwJar(3) = 10; fromJar(4, 10) = 10; ",
                "pass(20) = 20; openJar(1, true) = 29; throwJar(29) = 10; openJar(1, true)" + STATE,
                "account(0, 't') = 140;");
    }

    private static void countsOfPortionsAndBatches() {
        String full = HOUSE + "fromJar(0, 1) = 1; fromBatch(0, 1) = 2; fromJar(1, 1) = 3; fromBatch(1, 1) = 4; "
                + "fromBatch(0, 1) = 5; ";
        Runs.play("6 portions, the last of a jar", full, "fromJar(0, 1) = 6; fromJar(0, 1)" + STATE,
                "fromBatch(0, 1)" + STATE, "empty() = 6; " + Runs.times(1, 6, "fromJar(0, 1) = #; "),
                "fromJar(0, 1)" + STATE);
        Runs.play("6 portions, the last of a batch", full, "fromBatch(1, 1) = 6; fromBatch(0, 1)" + STATE,
                "fromJar(0, 1)" + STATE, "mix() = 2; " + Runs.times(1, 6, "fromBatch(0, 1) = #; "),
                "fromBatch(0, 1)" + STATE);
        String one = "fromBatch(0, 1) = 1; mix() = #; ";
        Runs.play("20 batches", HOUSE, Runs.times(2, 18, one), "batchLeft(19)" + INDEX, "throwBatch(2) = 1; ",
                "fromJar(0, 3) = 3; mix() = 19; fromBatch(0, 1) = 1; mix()" + STATE, "inDrum() = 1; ",
                "batchLeft(19) = 3; batchLeft(20)" + INDEX, "fromBatch(0, 1) = 2; mix()" + STATE, "empty() = 2; ",
                "mix()" + UNABLE, "throwBatch(19) = 3; fromBatch(0, 1) = 1; mix()" + STATE);
    }

    private static void gramsOfTheDrum() {
        Runs.play("5000 grams, from jars", BIG, "fromBatch(0, 3000) = 3000; fromBatch(1, 1999) = 4999; ",
                "fromJar(10, 2)" + STATE, "fromJar(10, 500)" + STATE, "fromJar(10, 1) = 5000; fromJar(10, 1)" + STATE,
                "inDrum() = 5000; mix() = 2; batchLeft(2) = 5000; inDrum() = 0; fromJar(10, 1) = 1;");
        Runs.play("5000 grams, from batches", BIG, "fromBatch(0, 3000) = 3000; fromJar(10, 1) = 3001; ",
                "fromBatch(1, 2000)" + STATE, "fromBatch(1, 1999) = 5000; fromBatch(1, 1)" + STATE,
                "empty() = 5000; fromBatch(1, 1) = 1;");
        Runs.play("5000 grams at once", BIG, "fromBatch(0, 3000) = 3000; fromBatch(1, 2000) = 5000; mix() = 2; ",
                "fromBatch(2, 5001)" + UNABLE, "fromBatch(2, 5000) = 5000; batchLeft(2) = 0; mix() = 3; ",
                "batchNumber(3, 0) = 50; batchNumber(3, 1) = 50; batchNumber(3, 2) = 50; batchLeft(3) = 5000;");
    }

    private static void countsOfBlendsLettersAndOffers() {
        Runs.play("6 blends", Runs.times(0, 4, "addBlend() = #; "), "band(5, 0, true)" + INDEX, "addBlend() = 5; ",
                "band(5, 0, true) = 99; addBlend()" + STATE, "band(6, 0, true)" + INDEX, "narrow(6)" + INDEX,
                "mixtureCost(6)" + INDEX);
        Runs.play("8 letters", "addBlend() = 0; " + Runs.times(1, 7, "type('m') = #; "), "type('m') = 8; ",
                "type('m')" + STATE, "type('z')" + STATE, "narrow(0) = false; "
                + Runs.times(1, 8, "type('h') = #; "), "type('h')" + STATE);
        Runs.play("8 letters are no word", "addBlend() = 0; typing hot; typing fresh; narrow(0) = false; ",
                "band(0, 0, false) = 0; band(0, 1, false) = 0;");
        String offer = "addOffer(0, 10, 1, 1)";
        Runs.play("6 offers", Runs.times(0, 4, offer + " = #; "), "jarsOf(0, 1, 5)" + INDEX, offer + " = 5; ",
                "jarsOf(0, 1, 5) = 1; " + offer + STATE, "jarsOf(0, 1, 6)" + INDEX, "cheapest(0, 60) = 6; ",
                "addOffer(5, 500, 999, 9)" + STATE, "cheapest(5, 1)" + NONE, "cheapest(0, 61)" + NONE);
    }

    private static void weeks() {
        StringBuilder all = new StringBuilder("week() = 0; ");
        for (int week = 20; week <= 480; week += 20) {
            all.append("pass(20) = ").append(week).append("; ");
        }
        Runs.play("the week 500 at a leap", all.toString(), "pass(20) = 500; week() = 500; pass(1)" + STATE,
                "pass(20)" + STATE, "week() = 500;");
        Runs.play("the week 500, one week above", all.toString(), "pass(1) = 481; pass(20)" + STATE, "week() = 481; ",
                "pass(19) = 500; pass(1)" + STATE);
        Runs.play("the week 500, week by week", all.toString(), Runs.times(481, 500, "pass(1) = #; "), "pass(1)"
                + STATE,
                "addLot(0, 9, 9, 9, 10, 1, 1) = 0; lotNumber(0, 1) = 9; openJar(0, false) = 0; jarNumber(0, 1) = 9;");
        Runs.play("a jar is thrown away in the week 500", all.toString(), "pass(12) = 492; ",
                "addLot(0, 9, 9, 9, 10, 1, 2) = 0; openJar(0, false) = 0; pass(1) = 493; openJar(0, false) = 1; ",
                "pass(6) = 499; jarLeft(0) = 10; pass(2)" + STATE, "jarLeft(0) = 10; pass(1) = 500; jarLeft(0) = 0; ",
                "jarLeft(1) = 10;");
    }

    private static void whatIsEmpty() {
        Runs.play("an empty house", "closed(0)" + INDEX, "hold(0, true)" + INDEX, "openJar(0, true)" + INDEX,
                "throwJar(0)" + INDEX, "fromJar(0, 1)" + INDEX, "fromBatch(0, 1)" + INDEX, "hasLot(0, 0)" + INDEX,
                "throwBatch(0)" + INDEX, "narrow(0)" + INDEX, "isIn(0, 0)" + INDEX, "test(0, 0)" + INDEX,
                "ship(0, 0, 0, 1)" + INDEX, "gotOf(0, 0)" + INDEX, "recall(0)" + INDEX, "isOdd(0)" + INDEX,
                "account(0, 'b')" + INDEX, "mixtureCost(0)" + INDEX, "mixturePart(0, 0)" + INDEX, "mix()" + UNABLE,
                "shippedShare()" + NONE, "meanOil()" + NONE, "inDrum() = 0; empty() = 0; week() = 0; ",
                "got(0) = 0; got(5) = 0; owes(0) = 0; owes(5) = 0; isSound() = true;");
        Runs.play("a blend without lots", "addBlend() = 0; mixtureCost(0)" + NONE, "mixturePart(0, 0)" + INDEX,
                "narrow(0) = false; addLot(0, 1, 1, 1, 10, 1, 1) = 0; mixtureCost(0) = 10;");
        Runs.play("one batch of one gram", "addLot(0, 1, 0, 1, 10, 1, 1) = 0; openJar(0, false) = 0; shippedShare()"
                + NONE,
                "fromJar(0, 1) = 1; mix() = 0; shippedShare() = 0.0; throwBatch(0) = 1; shippedShare() = 0.0;");
        Runs.play("one lot, one batch", "addLot(0, 1, 0, 1, 10, 1, 1) = 0; meanOil() = 0.0; openJar(0, false) = 0; ",
                "fromJar(0, 10) = 10; shippedShare()" + NONE, "mix() = 0; shippedShare() = 0.0; addBlend() = 0; ",
                "test(0, 0) = true; ship(0, 0, 0, 1) = 0; shippedShare() = " + (double) (1f / 10f)
                + "; ship(0, 0, 3, 9) = 1; shippedShare() = 1.0; mixtureCost(0)" + NONE, "meanOil() = 0.0;");
    }

    private static void whatIsUsedUp() {
        Runs.play("the last closed jar", "addLot(0, 9, 9, 9, 10, 1, 2) = 0; openJar(0, false) = 0; closed(0) = 1; ",
                "openJar(0, false) = 1; closed(0) = 0; openJar(0, false)" + UNABLE, "openJar(0, true)" + UNABLE,
                "closed(0) = 0; account(0, 'c') = 0;");
        Runs.play("the last grams of a jar", "addLot(0, 9, 9, 9, 10, 1, 2) = 0; openJar(0, false) = 0; ",
                "fromJar(0, 9) = 9; fromJar(0, 2)" + UNABLE, "fromJar(0, 1) = 10; fromJar(0, 1)" + UNABLE,
                "jarLeft(0) = 0; throwJar(0) = 0; throwJar(0) = 0; account(0, 't') = 0; account(0, 'p') = 10;");
        Runs.play("the last grams of a batch", HOUSE, "fromBatch(1, 4) = 4; ship(1, 0, 0, 2)" + UNABLE,
                "fromBatch(1, 2)" + UNABLE, "ship(1, 0, 0, 1) = 1; ship(1, 0, 0, 1)" + UNABLE,
                "fromBatch(1, 1)" + UNABLE, "throwBatch(1) = 0; batchLeft(1) = 0; test(1, 0) = true; ",
                "isIn(1, 0) = true; batchNumber(1, 0) = 80;");
        Runs.play("the drum is emptied twice", HOUSE, "fromJar(0, 5) = 5; empty() = 5; empty() = 0; mix()" + UNABLE,
                "fromJar(0, 5) = 5; mix() = 2; empty() = 0; mix()" + UNABLE);
    }
}
