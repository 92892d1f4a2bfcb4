import java.math.BigInteger;

/**
 * The sentences of the document's 'Terms', one by one: what fades to 0 and would go below it, divisions that are cut
 * and those that leave no rest, the week that is just late enough, and each condition alone, kept and not kept.
 */
public final class SentencesTest {
    private static final String ARGUMENT = Runs.ARGUMENT;
    private static final String UNABLE = Runs.UNABLE;
    private static final String NONE = Runs.NONE;

    public static void main(String[] args) {
        lotsFade();
        lotsFadeToNoLess();
        jarsFade();
        eightWeeks();
        oldestFirst();
        hold();
        portionsDoNotChange();
        numbersOfBatches();
        batchesHaveLots();
        endsOfBands();
        words();
        testedBehindTheLastWord();
        shipsOnly();
        waysToCover();
        likeWays();
        bounds();
        boundsOfLikeOffers();
        partsOfMixtures();
        bandsOfMixtures();
        lotsOfMixtures();
        likeMixtures();
        odd();
        chances();
        costs();
        kitchens();
        accounts();
        sums();
        Runs.end();
    }

    /** "By its weeks, a fourth off the heat, half off the oil, a third off the colour, each cut." */
    private static void lotsFade() {
        int[] heat = {99, 99, 99, 99, 98, 98, 98, 98, 97, 97, 97, 97, 96};
        int[] oil = {99, 99, 98, 98, 97, 97, 96, 96, 95, 95, 94, 94, 93};
        int[] colour = {99, 99, 99, 98, 98, 98, 97, 97, 97, 96, 96, 96, 95};
        for (int came = 0; came <= 20; came += 5) {
            StringBuilder rows = new StringBuilder(came == 0 ? "" : "pass(" + came + ") = " + came + "; ");
            rows.append("addLot(0, 99, 99, 99, 50, 20, 2) = 0; ");
            for (int weeks = 0; weeks <= 12; weeks++) {
                rows.append(weeks == 0 ? "" : "pass(1) = " + (came + weeks) + "; ");
                rows.append(lot(0, heat[weeks], oil[weeks], colour[weeks]));
            }
            Runs.play("a lot that came in the week " + came + " fades", rows.toString());
        }
        Runs.play("a leap fades as much", "addLot(0, 99, 99, 99, 50, 20, 2) = 0; pass(12) = 12; " + lot(0, 96, 93, 95));
    }

    private static String lot(int lot, int heat, int oil, int colour) {
        return ("lotNumber(#, 0) = " + heat + "; lotNumber(#, 1) = " + oil + "; lotNumber(#, 2) = " + colour + "; ")
                .replace("#", "" + lot);
    }

    private static String jar(int jar, int heat, int oil, int colour) {
        return lot(jar, heat, oil, colour).replace("lot", "jar");
    }

    private static String batch(int batch, int heat, int oil, int colour) {
        return lot(batch, heat, oil, colour).replace("lot", "batch");
    }

    /** ".. but to no less than 0." */
    private static void lotsFadeToNoLess() {
        Runs.play("1 fades to 0 and no less", "addLot(0, 1, 1, 1, 50, 20, 2) = 0; addLot(0, 0, 0, 0, 50, 20, 2) = 1; ",
                "pass(1) = 1; " + lot(0, 1, 1, 1) + "pass(1) = 2; " + lot(0, 1, 0, 1) + lot(1, 0, 0, 0),
                "pass(1) = 3; " + lot(0, 1, 0, 0) + lot(1, 0, 0, 0) + "pass(1) = 4; " + lot(0, 0, 0, 0),
                "pass(1) = 5; pass(1) = 6; " + lot(0, 0, 0, 0) + "pass(2) = 8; " + lot(0, 0, 0, 0) + lot(1, 0, 0, 0),
                "meanOil() = 0.0; pass(20) = 28; " + lot(0, 0, 0, 0));
        Runs.play("99 fades to 0 and no less", "addLot(0, 99, 99, 99, 50, 20, 2) = 0; ", weeks(0, 180),
                "pass(17) = 197; lotNumber(0, 1) = 1; meanOil() = 1.0; pass(1) = 198; lotNumber(0, 1) = 0; ",
                "meanOil() = 0.0; pass(2) = 200; lotNumber(0, 1) = 0; meanOil() = 0.0; ", weeks(200, 280),
                "pass(16) = 296; lotNumber(0, 2) = 1; pass(1) = 297; lotNumber(0, 2) = 0; pass(3) = 300; ",
                "lotNumber(0, 2) = 0; ", weeks(300, 380), "pass(15) = 395; lotNumber(0, 0) = 1; pass(1) = 396; ",
                "lotNumber(0, 0) = 0; pass(4) = 400; lotNumber(0, 0) = 0; ", weeks(400, 500), lot(0, 0, 0, 0));
    }

    /** From a week to one that is some twenties later. */
    private static String weeks(int from, int to) {
        StringBuilder rows = new StringBuilder();
        for (int week = from + 20; week <= to; week += 20) {
            rows.append("pass(20) = ").append(week).append("; ");
        }
        return rows.toString();
    }

    /** "Those of its lot as faded by now, each less the weeks since it was opened, but to no less than 0." */
    private static void jarsFade() {
        Runs.play("a jar fades to 0 and no less", "addLot(0, 5, 9, 4, 50, 20, 2) = 0; openJar(0, false) = 0; ",
                jar(0, 5, 9, 4), "pass(1) = 1; " + jar(0, 4, 8, 3), "pass(1) = 2; " + jar(0, 3, 6, 2),
                "pass(1) = 3; " + jar(0, 2, 5, 0), "pass(1) = 4; " + jar(0, 0, 3, 0), "pass(1) = 5; " + jar(0, 0, 2, 0),
                "pass(1) = 6; " + jar(0, 0, 0, 0), "pass(1) = 7; " + jar(0, 0, 0, 0),
                "pass(1) = 8; " + jar(0, 0, 0, 0));
        Runs.play("a jar that was opened later", "pass(3) = 3; addLot(0, 80, 60, 70, 50, 20, 2) = 0; pass(6) = 9; ",
                "openJar(0, false) = 0; " + jar(0, 79, 57, 68) + "pass(1) = 10; " + jar(0, 78, 56, 67),
                "pass(1) = 11; " + jar(0, 76, 54, 66) + lot(0, 78, 56, 68) + "openJar(0, false) = 1; ",
                jar(1, 78, 56, 68) + jar(0, 76, 54, 66));
        Runs.play("a jar of a lot that is at 0", "addLot(0, 1, 1, 1, 50, 20, 2) = 0; pass(20) = 20; ",
                "openJar(0, false) = 0; " + jar(0, 0, 0, 0) + "pass(1) = 21; " + jar(0, 0, 0, 0),
                "fromJar(0, 50) = 50; mix() = 0; " + batch(0, 0, 0, 0));
        Runs.play("a jar that was thrown away fades on", "addLot(0, 80, 60, 70, 50, 20, 2) = 0; "
                + "openJar(0, false) = 0; ",
                "throwJar(0) = 50; " + jar(0, 80, 60, 70) + "pass(12) = 12; " + jar(0, 65, 42, 54));
    }

    /** "As the week begins that is 8 later than that in which it was opened, what is left in it is thrown away." */
    private static void eightWeeks() {
        String opened = "addLot(0, 80, 60, 70, 50, 20, 5) = 0; pass(3) = 3; openJar(0, false) = 0; ";
        Runs.play("7 weeks and 8", opened, "pass(7) = 10; jarLeft(0) = 50; account(0, 'o') = 50; account(0, 't') = 0; ",
                "fromJar(0, 1) = 1; pass(1) = 11; jarLeft(0) = 0; account(0, 'o') = 0; account(0, 't') = 49; ",
                "fromJar(0, 1)" + UNABLE, "pass(1) = 12; account(0, 't') = 49; throwJar(0) = 0; inDrum() = 1; ",
                "closed(0) = 4; isSound() = true;");
        Runs.play("8 weeks at a leap", opened, "pass(8) = 11; jarLeft(0) = 0; account(0, 't') = 50;");
        Runs.play("9 weeks at a leap", opened, "pass(9) = 12; jarLeft(0) = 0; account(0, 't') = 50;");
        Runs.play("20 weeks at a leap", opened, "pass(20) = 23; jarLeft(0) = 0; account(0, 't') = 50; pass(20) = 43; ",
                "account(0, 't') = 50;");
        Runs.play("jar by jar", opened, "pass(1) = 4; openJar(0, false) = 1; pass(5) = 9; openJar(0, false) = 2; ",
                "pass(2) = 11; jarLeft(0) = 0; jarLeft(1) = 50; jarLeft(2) = 50; pass(1) = 12; jarLeft(1) = 0; ",
                "jarLeft(2) = 50; pass(4) = 16; jarLeft(2) = 50; pass(1) = 17; jarLeft(2) = 0; account(0, 't') = 150;");
        Runs.play("what was used or thrown away before", opened, "openJar(0, false) = 1; fromJar(0, 50) = 50; ",
                "throwJar(1) = 50; pass(8) = 11; account(0, 't') = 50; account(0, 'p') = 50; account(0, 'o') = 0;");
        Runs.play("closed jars and batches stay", opened, "fromJar(0, 50) = 50; mix() = 0; fromBatch(0, 20) = 20; ",
                "pass(20) = 23; closed(0) = 4; batchLeft(0) = 30; inDrum() = 20; account(0, 'c') = 200; "
                + "account(0, 't') = 0;");
        Runs.play("of a lot on hold too", opened, "hold(0, true) = false; pass(7) = 10; jarLeft(0) = 50; "
                + "pass(1) = 11; ",
                "jarLeft(0) = 0; account(0, 't') = 50; hold(0, true) = true;");
    }

    /** "No other lot of that spice that came in an earlier week may have closed ones and be without hold." */
    private static void oldestFirst() {
        String lots = "pass(1) = 1; addLot(2, 9, 9, 9, 10, 1, 1) = 0; pass(1) = 2; addLot(2, 9, 9, 9, 20, 1, 9) = 1; ";
        Runs.play("an older one", lots, "openJar(1, false)" + UNABLE, "openJar(0, false) = 0; openJar(1, false) = 1; ",
                "jarLeft(1) = 20;");
        Runs.play("a fresher one is asked", lots, "openJar(1, true) = 0; jarLeft(0) = 20; openJar(1, false)" + UNABLE,
                "closed(0) = 1; closed(1) = 8; openJar(0, true) = 1;");
        Runs.play("an older one on hold", lots, "hold(0, true) = false; openJar(1, false) = 0; hold(0, false) = true; ",
                "openJar(1, false)" + UNABLE, "openJar(1, true) = 1; hold(1, true) = false; openJar(1, true)" + UNABLE,
                "openJar(1, false)" + UNABLE, "openJar(0, false) = 2;");
        Runs.play("one of the same week", lots, "addLot(2, 9, 9, 9, 30, 1, 1) = 2; hold(0, true) = false; ",
                "openJar(2, false) = 0; openJar(1, false) = 1; jarLeft(0) = 30; openJar(2, true)" + UNABLE);
        Runs.play("one of another spice", lots, "pass(1) = 3; addLot(3, 9, 9, 9, 30, 1, 1) = 2; "
                + "addLot(1, 9, 9, 9, 30, 1, 1) = 3; openJar(2, false) = 0; openJar(3, false) = 1; "
                + "openJar(1, false)" + UNABLE);
        Runs.play("two older ones", lots, "pass(1) = 3; addLot(2, 9, 9, 9, 30, 1, 1) = 2; openJar(2, false)" + UNABLE,
                "openJar(0, false) = 0; openJar(2, false)" + UNABLE, "hold(1, true) = false; openJar(2, false) = 1;");
    }

    /** "None of its jars is opened, and nothing of them, of batches with it, or of the drum with it, is used." */
    private static void hold() {
        String house = "addLot(0, 80, 60, 70, 50, 20, 2) = 0; addLot(1, 70, 90, 60, 40, 30, 3) = 1; "
                + "openJar(0, false) = 0; openJar(1, false) = 1; fromJar(0, 9) = 9; mix() = 0; fromBatch(0, 5) = 5; "
                + "fromJar(1, 5) = 10; mix() = 1; addBlend() = 0; test(0, 0) = true; test(1, 0) = true; ";
        Runs.play("jars and batches on hold", house, "hold(0, true) = false; openJar(0, false)" + UNABLE,
                "openJar(0, true)" + UNABLE, "fromJar(0, 1)" + UNABLE, "fromBatch(0, 1)" + UNABLE,
                "fromBatch(1, 1)" + UNABLE, "ship(0, 0, 0, 1)" + UNABLE, "ship(1, 0, 0, 1)" + UNABLE,
                "openJar(1, false) = 2; fromJar(1, 1) = 1; mix() = 2; fromBatch(2, 1) = 1; empty() = 1; ",
                "hold(0, false) = true; openJar(0, false) = 3; fromJar(0, 1) = 1; fromBatch(0, 1) = 2; ",
                "fromBatch(1, 1) = 3; ship(0, 0, 0, 1) = 0; ship(1, 0, 0, 1) = 0;");
        Runs.play("one of two lots on hold", house, "hold(1, true) = false; fromJar(1, 1)" + UNABLE,
                "fromBatch(0, 1) = 1; ship(0, 0, 0, 1) = 0; fromBatch(1, 1)" + UNABLE, "ship(1, 0, 0, 1)" + UNABLE,
                "mix() = 2; hold(0, true) = false; hold(1, false) = true; fromBatch(1, 1)" + UNABLE,
                "ship(1, 0, 0, 1)" + UNABLE, "hold(0, false) = true; ship(1, 0, 0, 1) = 0;");
        Runs.play("the drum on hold", house, "fromBatch(1, 1) = 1; hold(0, true) = false; mix()" + UNABLE,
                "fromJar(1, 1) = 2; mix()" + UNABLE, "hold(0, false) = true; hold(1, true) = false; mix()" + UNABLE,
                "hold(1, false) = true; mix() = 2; hasLot(2, 0) = true; batchLeft(2) = 2;");
        Runs.play("what is still told and thrown away", house, "fromJar(0, 1) = 1; hold(0, true) = false; ",
                "jarLeft(0) = 40; jarNumber(0, 0) = 80; batchLeft(1) = 10; isIn(1, 0) = true; test(1, 0) = true; ",
                "hasLot(1, 0) = true; isOdd(0) = false; throwBatch(1) = 10; throwJar(0) = 40; empty() = 1; ",
                "account(0, 't') = 40; closed(0) = 1; lotNumber(0, 0) = 80; isSound() = true;");
    }

    /** "With its numbers as they are then, which do not change any more." */
    private static void portionsDoNotChange() {
        Runs.play("portions of two weeks", "addLot(0, 80, 60, 70, 50, 20, 2) = 0; openJar(0, false) = 0; ",
                "fromJar(0, 10) = 10; pass(4) = 4; fromJar(0, 10) = 20; " + jar(0, 75, 54, 65),
                "pass(3) = 7; mix() = 0; " + batch(0, 77, 57, 67) + "pass(20) = 27; " + batch(0, 77, 57, 67));
        Runs.play("a portion of a batch", "addLot(0, 80, 60, 70, 50, 20, 2) = 0; openJar(0, false) = 0; ",
                "fromJar(0, 10) = 10; mix() = 0; pass(7) = 7; fromBatch(0, 10) = 10; pass(7) = 14; mix() = 1; ",
                batch(0, 80, 60, 70) + batch(1, 80, 60, 70));
        Runs.play("a portion of a jar that is thrown away then", "addLot(0, 80, 60, 70, 50, 20, 2) = 0; ",
                "openJar(0, false) = 0; fromJar(0, 10) = 10; throwJar(0) = 40; pass(20) = 20; inDrum() = 10; ",
                "mix() = 0; " + batch(0, 80, 60, 70));
    }

    /** "The sum of grams times that number of its portions, divided by all grams, cut." */
    private static void numbersOfBatches() {
        String jars = "addLot(0, 1, 99, 0, 50, 20, 2) = 0; addLot(1, 2, 97, 1, 50, 20, 2) = 1; "
                + "addLot(2, 3, 98, 99, 50, 20, 2) = 2; openJar(0, false) = 0; openJar(1, false) = 1; "
                + "openJar(2, false) = 2; ";
        Runs.play("cut, one below", jars, "fromJar(0, 1) = 1; fromJar(1, 1) = 2; mix() = 0; " + batch(0, 1, 98, 0));
        Runs.play("cut, just below", jars, "fromJar(0, 1) = 1; fromJar(1, 49) = 50; mix() = 0; " + batch(0, 1, 97, 0),
                "fromJar(2, 49) = 49; fromJar(0, 1) = 50; mix() = 1; " + batch(1, 2, 98, 97));
        Runs.play("no rest", jars, "fromJar(0, 5) = 5; fromJar(2, 5) = 10; mix() = 0; " + batch(0, 2, 98, 49),
                "fromJar(1, 7) = 7; mix() = 1; " + batch(1, 2, 97, 1) + "fromBatch(0, 3) = 3; fromBatch(1, 4) = 7; ",
                "mix() = 2; " + batch(2, 2, 97, 21));
        Runs.play("six portions", jars, "fromJar(0, 1) = 1; fromJar(1, 2) = 3; fromJar(2, 3) = 6; fromJar(0, 4) = 10; ",
                "fromJar(1, 5) = 15; fromJar(2, 6) = 21; mix() = 0; " + batch(0, 2, 97, 42));
        Runs.play("a batch of a cut number", jars, "fromJar(0, 1) = 1; fromJar(1, 9) = 10; mix() = 0; ",
                batch(0, 1, 97, 0) + "fromBatch(0, 9) = 9; fromJar(1, 1) = 10; mix() = 1; " + batch(1, 1, 97, 0));
    }

    /** "If one of its portions is of a jar of that lot, or of a batch that has it." */
    private static void batchesHaveLots() {
        Runs.play("lots of batches of batches", "addLot(0, 9, 9, 9, 50, 20, 2) = 0; "
                + "addLot(1, 9, 9, 9, 50, 20, 2) = 1; ",
                "addLot(2, 9, 9, 9, 50, 20, 2) = 2; openJar(0, false) = 0; openJar(1, false) = 1; ",
                "openJar(2, false) = 2; fromJar(0, 9) = 9; mix() = 0; fromBatch(0, 8) = 8; mix() = 1; ",
                "fromBatch(1, 7) = 7; fromJar(2, 1) = 8; mix() = 2; fromJar(1, 1) = 1; empty() = 1; ",
                "fromJar(2, 1) = 1; mix() = 3; hasLot(0, 0) = true; hasLot(1, 0) = true; hasLot(2, 0) = true; ",
                "hasLot(2, 1) = false; hasLot(2, 2) = true; hasLot(3, 0) = false; hasLot(3, 1) = false; ",
                "hasLot(3, 2) = true; hasLot(0, 2) = false; throwBatch(2) = 8; hasLot(2, 0) = true;");
        String lots = Runs.times(0, 11, "addLot(3, 9, 9, 9, 10, 1, 1) = #; openJar(#, false) = #; ");
        Runs.play("the last lot", lots, "fromJar(11, 1) = 1; mix() = 0; hasLot(0, 11) = true; hasLot(0, 10) = false; ",
                "hasLot(0, 0) = false; hold(11, true) = false; fromBatch(0, 1)" + UNABLE, "fromJar(10, 1) = 1; ",
                "mix() = 1; addBlend() = 0; test(1, 0) = true; ship(1, 0, 5, 1) = 0; recall(10) = 1; recall(11) = 0; ",
                "gotOf(5, 10) = true; gotOf(5, 11) = false;");
    }

    /** "'mild' the heat to 0 to 30, 'hot' to 60 to 99, 'fresh' the oil to 50 to 99, 'red' the colour to 60 to 99." */
    private static void endsOfBands() {
        bandOf("mild", 0, 0, 30);
        bandOf("hot", 0, 60, 99);
        bandOf("fresh", 1, 50, 99);
        bandOf("red", 2, 60, 99);
        bandOf("nothing", 0, 0, 99);
        bandOf("nothing", 1, 0, 99);
        bandOf("nothing", 2, 0, 99);
    }

    /** Batches with each number from 0 to 99 at the edges, and with numbers for the other bands that are in them. */
    private static void bandOf(String word, int what, int low, int high) {
        int[] tried = {0, 1, low - 1, low, low + 1, high - 1, high, high + 1, 98, 99};
        for (int number : tried) {
            if (number < 0 || number > 99) {
                continue;
            }
            boolean isIn = number >= low && number <= high;
            String lot = "addLot(0, " + (what == 0 ? number : 70) + ", " + (what == 1 ? number : 70) + ", "
                    + (what == 2 ? number : 70) + ", 50, 100, 1) = 0; ";
            Runs.play("the band of " + word + " and " + number, lot, "openJar(0, false) = 0; fromJar(0, 50) = 50; ",
                    "mix() = 0; addBlend() = 0; ", word.equals("nothing") ? "" : "typing " + word + "; "
                    + "narrow(0) = true; ",
                    "band(0, " + what + ", false) = " + low + "; band(0, " + what + ", true) = " + high + "; ",
                    "isIn(0, 0) = " + isIn + "; test(0, 0) = " + isIn + "; ",
                    isIn ? "ship(0, 0, 0, 50) = 100;" : "ship(0, 0, 0, 50)" + UNABLE);
        }
    }

    /** "To what is in both; a word that would leave a band without a number does not." */
    private static void words() {
        String bands = "band(0, 0, false) = %d; band(0, 0, true) = %d; band(0, 1, false) = %d; band(0, 1, true) = 99; "
                + "band(0, 2, false) = %d; band(0, 2, true) = 99; band(1, 0, true) = 99; band(1, 0, false) = 0; ";
        String blends = "addBlend() = 0; addBlend() = 1; ";
        String wide = String.format(bands, 0, 99, 0, 0);
        String hot = String.format(bands, 60, 99, 0, 0);
        String all = String.format(bands, 0, 30, 50, 60);
        Runs.play("each word", blends, wide, "typing mild; narrow(0) = true; ", String.format(bands, 0, 30, 0, 0),
                "typing fresh; narrow(0) = true; ", String.format(bands, 0, 30, 50, 0),
                "typing red; narrow(0) = true; ", all, "typing hot; narrow(0) = false; ", all,
                "typing mild; narrow(0) = true; typing fresh; narrow(0) = true; typing red; narrow(0) = true; ", all);
        Runs.play("hot first", blends, "typing hot; narrow(0) = true; ", hot, "typing mild; narrow(0) = false; ", hot,
                "typing hot; narrow(0) = true; ", hot, "isSound() = true;");
        StringBuilder none = new StringBuilder("narrow(0) = false; ");
        for (String word : ("mil milda amild mi ho hott hothot shot fres freshs redd re ered dim h x mildhot hotred "
                + "tohs").split(" ")) {
            none.append("typing ").append(word).append("; narrow(0) = false; ");
        }
        Runs.play("what is none of the words", blends, none.toString(), wide);
        Runs.play("the word is gone", blends, "typing re; narrow(0) = false; type('d') = 1; narrow(0) = false; ",
                "typing red; narrow(0) = true; type('x') = 1; narrow(0) = false; narrow(0) = false; typing hot; ",
                "narrow(0) = true; typing mild; narrow(0) = false; type('h') = 1; typing ot; narrow(0) = true; ",
                String.format(bands, 60, 99, 0, 60));
        Runs.play("the word stays where it narrows none", blends, "typing mild; narrow(2)" + Runs.INDEX,
                "narrow(-1)" + Runs.INDEX, "type('M')" + ARGUMENT, "narrow(0) = true; ",
                String.format(bands, 0, 30, 0, 0));
    }

    /** "Behind the last word that narrowed bands of the blend, be they the same as before." */
    private static void testedBehindTheLastWord() {
        String house = "addLot(0, 80, 60, 70, 50, 100, 2) = 0; openJar(0, false) = 0; fromJar(0, 20) = 20; mix() = 0; "
                + "addBlend() = 0; addBlend() = 1; test(0, 0) = true; test(0, 1) = true; ";
        String late = "ship(0, 0, 0, 1)" + UNABLE + "ship(0, 1, 0, 1) = 2; test(0, 0) = true; ship(0, 0, 0, 1) = 2; ";
        Runs.play("a word that changes the bands", house, "typing hot; narrow(0) = true; ", late);
        Runs.play("a word that leaves the bands as they were", house, "typing hot; narrow(0) = true; "
                + "test(0, 0) = true; ",
                "typing hot; narrow(0) = true; ", late, "typing fresh; narrow(0) = true; ", late,
                "typing fresh; narrow(0) = true; ", late, "typing red; narrow(0) = true; ", late,
                "typing red; narrow(0) = true; ", late);
        Runs.play("two words", house, "typing hot; narrow(0) = true; test(0, 0) = true; typing red; narrow(0) = true; ",
                "typing fresh; narrow(0) = true; ", late);
        String still = "ship(0, 0, 0, 1) = 2; ship(0, 1, 0, 1) = 2; ";
        Runs.play("a word that would leave a band without a number", house, "typing hot; narrow(0) = true; ", late,
                "typing mild; narrow(0) = false; ", still);
        Runs.play("no word", house, "narrow(0) = false; ", still, "typing hat; narrow(0) = false; ", still,
                "typing hot; narrow(2)" + Runs.INDEX, still);
        Runs.play("a word that is typed and not used", house, "typing hot; ", still);
        Runs.play("other weeks, a hold, and a test again", house, "pass(20) = 20; hold(0, true) = false; ",
                "hold(0, false) = true; ", still, "test(0, 0) = true; ", still);
        Runs.play("a batch that came behind the test", house, "fromBatch(0, 1) = 1; mix() = 1; ",
                "ship(1, 0, 0, 1)" + UNABLE, "ship(0, 0, 0, 1) = 2; test(1, 0) = true; ship(1, 1, 0, 1)" + UNABLE,
                "ship(1, 0, 0, 1) = 2;");
        Runs.play("one blend is tested, another is narrowed", house, "typing mild; narrow(1) = true; ",
                "ship(0, 0, 0, 1) = 2; ship(0, 1, 0, 1)" + UNABLE, "test(0, 1) = false; ship(0, 1, 0, 1)" + UNABLE);
    }

    /** Each thing that keeps a batch from being shipped, alone. */
    private static void shipsOnly() {
        String house = "addLot(0, 30, 60, 70, 50, 100, 2) = 0; addLot(1, 30, 60, 70, 50, 100, 2) = 1; "
                + "openJar(0, false) = 0; openJar(1, false) = 1; fromJar(0, 20) = 20; fromJar(1, 5) = 25; mix() = 0; "
                + "addBlend() = 0; typing mild; narrow(0) = true; ";
        Runs.play("all is well", house, "test(0, 0) = true; ship(0, 0, 3, 25) = 50; got(3) = 25; owes(3) = 50;");
        Runs.play("not tested", house, "isIn(0, 0) = true; ship(0, 0, 3, 25)" + UNABLE);
        Runs.play("a lot on hold", house, "test(0, 0) = true; hold(0, true) = false; ship(0, 0, 3, 25)" + UNABLE,
                "hold(0, false) = true; hold(1, true) = false; ship(0, 0, 3, 25)" + UNABLE);
        Runs.play("not as many grams", house, "test(0, 0) = true; ship(0, 0, 3, 26)" + UNABLE, "got(3) = 0; "
                + "owes(3) = 0;");
        Runs.play("tested and not in it", house, "addBlend() = 1; typing hot; narrow(1) = true; test(0, 1) = false; ",
                "ship(0, 1, 3, 25)" + UNABLE, "test(0, 0) = true; ship(0, 0, 3, 25) = 50;");
    }

    /** "Covered by jars of its offers with as many grams or more in all. .. That with the least sum of prices." */
    private static void waysToCover() {
        Runs.play("just as many grams", "addOffer(0, 30, 9, 2) = 0; addOffer(0, 20, 5, 1) = 1; cheapest(0, 19) = 5; ",
                "cheapest(0, 20) = 5; cheapest(0, 21) = 9; cheapest(0, 30) = 9; cheapest(0, 31) = 14; ",
                "cheapest(0, 50) = 14; cheapest(0, 51) = 18; cheapest(0, 60) = 18; cheapest(0, 61) = 23; ",
                "cheapest(0, 80) = 23; cheapest(0, 81)" + NONE, "jarsOf(0, 80, 0) = 2; jarsOf(0, 80, 1) = 1; ",
                "jarsOf(0, 81, 0)" + NONE, "jarsOf(0, 60, 1) = 0; jarsOf(0, 61, 1) = 1;");
        Runs.play("more than is needed", "addOffer(0, 500, 10, 1) = 0; addOffer(0, 10, 4, 9) = 1; "
                + "cheapest(0, 20) = 8; ",
                "cheapest(0, 30) = 10; jarsOf(0, 30, 0) = 1; jarsOf(0, 30, 1) = 0; cheapest(0, 500) = 10; ",
                "cheapest(0, 501) = 14; cheapest(0, 590) = 46; cheapest(0, 591)" + NONE);
        Runs.play("the cheapest is not that of the cheapest gram", "addOffer(0, 60, 11, 9) = 0; "
                + "addOffer(0, 50, 10, 9) = 1; ",
                "cheapest(0, 100) = 20; jarsOf(0, 100, 0) = 0; jarsOf(0, 100, 1) = 2; cheapest(0, 110) = 21; ",
                "cheapest(0, 120) = 22; bound(0, 100) = " + 1100.0 / 60 + ";");
        Runs.play("offers of that spice alone", "addOffer(1, 10, 1, 9) = 0; addOffer(0, 10, 9, 1) = 1; "
                + "cheapest(0, 10) = 9; ",
                "cheapest(0, 11)" + NONE, "jarsOf(0, 10, 0) = 0; jarsOf(0, 10, 1) = 1; jarsOf(1, 10, 1) = 0; ",
                "jarsOf(1, 90, 0) = 9; cheapest(1, 91)" + NONE);
        Runs.play("the largest sum", Runs.times(0, 5, "addOffer(3, 37, 999, 9) = #; "), "cheapest(3, 1998) = 53946; ",
                "cheapest(3, 1999)" + NONE, "bound(3, 1998) = 53946.0; jarsOf(3, 1998, 0) = 9;");
    }

    /** "Of like ones that with fewer jars of the offer with the lowest number, then of the next one, and so on." */
    private static void likeWays() {
        String offers = "addOffer(0, 30, 6, 2) = 0; addOffer(0, 20, 4, 3) = 1; addOffer(0, 10, 2, 1) = 2; ";
        Runs.play("fewer of the first one", offers, way(10, 2, 0, 0, 1), way(20, 4, 0, 1, 0), way(30, 6, 0, 1, 1),
                way(40, 8, 0, 2, 0), way(50, 10, 0, 2, 1), way(60, 12, 0, 3, 0), way(70, 14, 0, 3, 1),
                way(80, 16, 1, 2, 1), way(90, 18, 1, 3, 0), way(100, 20, 1, 3, 1), way(110, 22, 2, 2, 1),
                way(120, 24, 2, 3, 0), way(130, 26, 2, 3, 1), "cheapest(0, 131)" + NONE);
        Runs.play("then fewer of the next one", "addOffer(0, 100, 50, 1) = 0; addOffer(0, 20, 4, 9) = 1; "
                + "addOffer(0, 10, 2, 9) = 2; ", way(40, 8, 0, 0, 4), way(90, 18, 0, 0, 9), way(100, 20, 0, 1, 8),
                way(110, 22, 0, 1, 9), way(120, 24, 0, 2, 8));
        Runs.play("offers of another spice between", "addOffer(0, 10, 1, 9) = 0; addOffer(1, 10, 1, 9) = 1; "
                + "addOffer(0, 10, 1, 9) = 2; addOffer(1, 10, 1, 9) = 3; addOffer(0, 10, 1, 9) = 4; "
                + "addOffer(0, 10, 1, 9) = 5; ", "cheapest(0, 360) = 36; cheapest(0, 361)" + NONE,
                "jarsOf(0, 90, 5) = 9; jarsOf(0, 90, 4) = 0; jarsOf(0, 100, 4) = 1; jarsOf(0, 100, 2) = 0; ",
                "jarsOf(0, 190, 2) = 1; jarsOf(0, 190, 0) = 0; jarsOf(0, 280, 0) = 1; jarsOf(0, 280, 1) = 0; ",
                "jarsOf(0, 280, 2) = 9; jarsOf(1, 100, 1) = 1; jarsOf(1, 100, 3) = 9; jarsOf(1, 180, 5) = 0;");
    }

    private static String way(int need, int cost, int first, int second, int third) {
        return String.format("cheapest(0, %1$d) = %2$d; jarsOf(0, %1$d, 0) = %3$d; jarsOf(0, %1$d, 1) = %4$d; "
                + "jarsOf(0, %1$d, 2) = %5$d; ", need, cost, first, second, third);
    }

    /** "The sum, offer by offer, of all grams of it that are taken times its price, .. divided by the grams." */
    private static void bounds() {
        Runs.play("as far as needed", "addOffer(0, 20, 9, 2) = 0; addOffer(0, 50, 20, 1) = 1; bound(0, 49) = 19.6; ",
                "bound(0, 50) = 20.0; bound(0, 51) = 20.45; bound(0, 60) = 24.5; bound(0, 70) = 29.0; ",
                "bound(0, 90) = 38.0; bound(0, 91)" + NONE, "bound(0, 1) = 0.4;");
        Runs.play("all grams of an offer at once", "addOffer(0, 11, 3, 9) = 0; bound(0, 12) = " + 36.0 / 11,
                "; bound(0, 24) = " + 72.0 / 11 + "; bound(0, 11) = 3.0; bound(0, 99) = 27.0; bound(0, 98) = "
                + 294.0 / 11 + ";");
        Runs.play("offer by offer, as they are taken", "addOffer(0, 30, 18, 1) = 0; addOffer(0, 18, 12, 1) = 1; "
                + "addOffer(0, 29, 8, 1) = 2; bound(0, 70) = " + (8.0 + 18.0 + 132.0 / 18) + "; bound(0, 29) = 8.0; ",
                "bound(0, 59) = 26.0; bound(0, 60) = " + (26.0 + 12.0 / 18) + "; bound(0, 77) = 38.0;");
        Runs.play("and not by numbers", "addOffer(0, 21, 8, 1) = 0; addOffer(0, 12, 5, 1) = 1; "
                + "addOffer(0, 29, 11, 1) = 2; bound(0, 55) = " + (11.0 + 8.0 + 25.0 / 12) + ";");
        Runs.play("the largest", "addOffer(0, 10, 999, 9) = 0; addOffer(0, 500, 999, 4) = 1; bound(0, 2000) = 3996.0; ",
                "bound(0, 1999) = " + 1999 * 999.0 / 500 + "; cheapest(0, 2000) = 3996;");
    }

    /** "Offers by price for a gram, of like ones by numbers." */
    private static void boundsOfLikeOffers() {
        Runs.play("like ones, the larger first", "addOffer(0, 15, 5, 1) = 0; addOffer(0, 12, 4, 1) = 1; bound(0, 14) = "
                + 70.0 / 15 + "; bound(0, 16) = " + (5.0 + 4.0 / 12) + "; bound(0, 27) = 9.0;");
        Runs.play("like ones, the smaller first", "addOffer(0, 12, 4, 1) = 0; addOffer(0, 15, 5, 1) = 1; "
                + "bound(0, 14) = "
                + (4.0 + 10.0 / 15) + "; bound(0, 13) = " + (4.0 + 5.0 / 15) + "; bound(0, 27) = 9.0;");
        Runs.play("nearly like ones", "addOffer(0, 500, 999, 1) = 0; addOffer(0, 499, 997, 1) = 1; bound(0, 499) = "
                + 499 * 997.0 / 499 + "; bound(0, 500) = " + (997.0 + 999.0 / 500) + "; bound(0, 1) = " + 997.0 / 499
                + ";");
        Runs.play("the least price is not that of the cheapest gram", "addOffer(0, 10, 3, 1) = 0; "
                + "addOffer(0, 100, 20, 1) = 1; bound(0, 100) = 20.0; bound(0, 105) = 21.5; bound(0, 10) = 2.0;");
    }

    /** "The sum of parts times the price of the lot, times 10, divided by the grams of its jars, cut for each lot." */
    private static void partsOfMixtures() {
        String red = "typing red; narrow(0) = true; ";
        Runs.play("one lot, cut and no rest", "addLot(0, 9, 9, 9, 30, 7, 1) = 0; addBlend() = 0; mixtureCost(0) = 23; ",
                "mixturePart(0, 0) = 10; hold(0, true) = false; addLot(0, 9, 9, 9, 30, 9, 1) = 1; "
                + "mixtureCost(0) = 30; ",
                "mixturePart(0, 1) = 10; mixturePart(0, 0) = 0;");
        Runs.play("two lots, each cut", "addLot(0, 0, 0, 0, 30, 7, 1) = 0; addLot(0, 0, 0, 99, 30, 14, 1) = 1; ",
                "addBlend() = 0; " + red + "mixtureCost(0) = 39; mixturePart(0, 0) = 3; mixturePart(0, 1) = 7;");
        Runs.play("ten parts of a lot with few grams", "addLot(0, 9, 9, 9, 10, 1, 1) = 0; addBlend() = 0; ",
                "mixtureCost(0) = 10; mixturePart(0, 0) = 10; openJar(0, false) = 0; mixtureCost(0)" + NONE,
                "mixturePart(0, 0)" + NONE);
        Runs.play("a cost of 0", "addLot(0, 9, 9, 9, 500, 4, 1) = 0; addBlend() = 0; mixtureCost(0) = 0; ",
                "addLot(0, 9, 9, 9, 500, 5, 1) = 1; hold(0, true) = false; mixtureCost(0) = 1; ",
                "hold(0, false) = true; mixtureCost(0) = 0; mixturePart(0, 0) = 10;");
    }

    /** "Its numbers, each the sum of parts times that number, divided by 10, cut, are in the bands." */
    private static void bandsOfMixtures() {
        String blend = "addBlend() = 0; typing %s; narrow(0) = true; ";
        Runs.play("just mild", "addLot(0, 30, 0, 0, 50, 90, 1) = 0; addLot(1, 31, 0, 0, 50, 1, 1) = 1; ",
                String.format(blend, "mild"), "mixturePart(0, 0) = 1; mixturePart(0, 1) = 9; mixtureCost(0) = 19;");
        Runs.play("mild and no rest", "addLot(0, 30, 0, 0, 50, 90, 1) = 0; addLot(1, 40, 0, 0, 50, 1, 1) = 1; ",
                String.format(blend, "mild"), "mixturePart(0, 0) = 10; mixtureCost(0) = 180;");
        Runs.play("just hot", "addLot(0, 61, 0, 0, 50, 90, 1) = 0; addLot(1, 59, 0, 0, 50, 1, 1) = 1; ",
                String.format(blend, "hot"), "mixturePart(0, 0) = 5; mixturePart(0, 1) = 5; mixtureCost(0) = 91;");
        Runs.play("not hot", "addLot(0, 60, 0, 0, 50, 90, 1) = 0; addLot(1, 59, 0, 0, 50, 1, 1) = 1; ",
                String.format(blend, "hot"), "mixturePart(0, 0) = 10; hold(0, true) = false; mixtureCost(0)" + NONE,
                "mixturePart(0, 1)" + NONE);
        Runs.play("just fresh", "addLot(0, 0, 49, 0, 50, 1, 1) = 0; addLot(1, 0, 52, 0, 50, 90, 1) = 1; ",
                String.format(blend, "fresh"), "mixturePart(0, 0) = 6; mixturePart(0, 1) = 4; mixtureCost(0) = 73;");
        Runs.play("just red", "addLot(0, 0, 0, 55, 50, 1, 1) = 0; addLot(1, 0, 0, 65, 50, 90, 1) = 1; ",
                String.format(blend, "red"), "mixturePart(0, 0) = 5; mixturePart(0, 1) = 5; mixtureCost(0) = 91;");
        Runs.play("all bands at once", "addLot(0, 99, 0, 0, 50, 1, 1) = 0; addLot(1, 0, 99, 99, 50, 1, 1) = 1; ",
                String.format(blend, "fresh"), "typing red; narrow(0) = true; mixturePart(0, 0) = 3; "
                + "mixturePart(0, 1) = 7; typing hot; narrow(0) = true; mixtureCost(0)" + NONE);
    }

    /** "Of at most 3 lots, by their numbers as faded by now, without hold, and with closed jars." */
    private static void lotsOfMixtures() {
        String cut = Runs.times(0, 3, "addLot(#, 50, 50, 50, 30, 1, 1) = #; ");
        Runs.play("three lots and not four", cut, "addBlend() = 0; mixtureCost(0) = 2; mixturePart(0, 0) = 8; ",
                "mixturePart(0, 1) = 2; mixturePart(0, 2) = 0; mixturePart(0, 3) = 0;");
        Runs.play("three lots where four would cost less", Runs.times(0, 3, "addLot(#, 50, 50, 50, 40, 1, 1) = #; "),
                "addBlend() = 0; mixtureCost(0) = 1; mixturePart(0, 0) = 7; mixturePart(0, 1) = 3; "
                + "mixturePart(0, 2) = 0;");
        Runs.play("three bands, three lots", "addLot(0, 99, 20, 20, 50, 50, 1) = 0; "
                + "addLot(1, 20, 99, 20, 50, 50, 1) = 1; ",
                "addLot(2, 20, 99, 99, 50, 50, 1) = 2; addBlend() = 0; typing hot; narrow(0) = true; typing fresh; ",
                "narrow(0) = true; mixtureCost(0) = 100; mixturePart(0, 0) = 6; mixturePart(0, 1) = 4; "
                + "mixturePart(0, 2) = 0; typing red; narrow(0) = true; mixtureCost(0)" + NONE,
                "addLot(2, 90, 90, 40, 50, 500, 1) = 3; mixtureCost(0) = 550; mixturePart(0, 0) = 1; "
                + "mixturePart(0, 1) = 0; mixturePart(0, 2) = 4; mixturePart(0, 3) = 5;");
        Runs.play("faded by now", "addLot(0, 60, 50, 60, 50, 50, 9) = 0; addBlend() = 0; typing hot; "
                + "narrow(0) = true; ",
                "addBlend() = 1; typing fresh; narrow(1) = true; addBlend() = 2; typing red; narrow(2) = true; ",
                "pass(1) = 1; mixtureCost(0) = 100; mixtureCost(1) = 100; mixtureCost(2) = 100; pass(1) = 2; ",
                "mixtureCost(0) = 100; mixtureCost(1)" + NONE, "mixtureCost(2) = 100; pass(1) = 3; ",
                "mixtureCost(2)" + NONE, "mixtureCost(0) = 100; pass(1) = 4; mixtureCost(0)" + NONE);
        Runs.play("hold and closed jars", "addLot(0, 9, 9, 9, 50, 5, 1) = 0; addLot(0, 9, 9, 9, 50, 50, 2) = 1; ",
                "addBlend() = 0; mixtureCost(0) = 10; hold(0, true) = false; mixtureCost(0) = 100; ",
                "hold(1, true) = false; mixtureCost(0)" + NONE, "hold(0, false) = true; mixtureCost(0) = 10; ",
                "openJar(0, false) = 0; mixtureCost(0)" + NONE, "hold(1, false) = true; mixtureCost(0) = 100; ",
                "openJar(1, false) = 1; mixtureCost(0) = 100; openJar(1, false) = 2; mixtureCost(0)" + NONE);
    }

    /** "Of like ones that is taken with more parts of the lot with the lowest number, then of the next one." */
    private static void likeMixtures() {
        Runs.play("like ones", Runs.times(0, 11, "addLot(0, 70, 70, 70, 50, 5, 1) = #; "), "addBlend() = 0; ",
                "mixtureCost(0) = 10; mixturePart(0, 0) = 10; hold(0, true) = false; mixturePart(0, 0) = 0; "
                + "mixturePart(0, 1) = 10; ", Runs.times(1, 10, "hold(#, true) = false; "), "mixturePart(0, 11) = 10; ",
                "mixturePart(0, 10) = 0; hold(11, true) = false; mixtureCost(0)" + NONE);
        Runs.play("more of the lowest, then of the next one", "addLot(0, 0, 70, 70, 50, 5, 1) = 0; "
                + "addLot(0, 80, 70, 70, 50, 5, 1) = 1; addLot(0, 90, 70, 70, 50, 5, 1) = 2; "
                + "addLot(0, 99, 70, 70, 50, 5, 1) = 3; addBlend() = 0; typing hot; narrow(0) = true; ",
                "mixtureCost(0) = 10; mixturePart(0, 0) = 3; mixturePart(0, 1) = 4; mixturePart(0, 2) = 0; "
                + "mixturePart(0, 3) = 3;");
        Runs.play("a cheaper one with a higher number", "addLot(0, 70, 70, 70, 50, 50, 1) = 0; "
                + "addLot(0, 70, 70, 70, 50, 45, 1) = 1; addBlend() = 0; mixtureCost(0) = 90; mixturePart(0, 1) = 10; ",
                "mixturePart(0, 0) = 0;");
        Runs.play("like ones by a cut", "addLot(0, 70, 70, 70, 50, 50, 1) = 0; addLot(0, 70, 70, 70, 50, 49, 1) = 1; ",
                "addBlend() = 0; mixtureCost(0) = 98; mixturePart(0, 0) = 4; mixturePart(0, 1) = 6;");
    }

    /** "If one of its numbers as it came is below, or above, those of all other lots, there being 2 others or more." */
    private static void odd() {
        int[][] apart = {{4, 5, 5}, {6, 5, 5}, {5, 4, 5}, {5, 6, 5}, {5, 5, 4}, {5, 5, 6}};
        for (int[] came : apart) {
            String lot = "addLot(2, " + came[0] + ", " + came[1] + ", " + came[2] + ", 10, 1, 1)";
            Runs.play("odd with " + lot, "addLot(2, 5, 5, 5, 10, 1, 1) = 0; " + lot + " = 1; isOdd(1) = false; ",
                    "isOdd(0) = false; addLot(3, 5, 5, 5, 10, 1, 1) = 2; isOdd(1) = false; isOdd(2) = false; ",
                    "addLot(2, 5, 5, 5, 10, 1, 1) = 3; isOdd(1) = true; isOdd(0) = false; isOdd(3) = false; ",
                    lot + " = 4; isOdd(1) = false; isOdd(4) = false; isOdd(0) = false; isOdd(2) = false;");
        }
        Runs.play("like ones are not odd", Runs.times(0, 3, "addLot(2, 5, 5, 5, 10, 1, 1) = #; "),
                Runs.times(0, 3, "isOdd(#) = false; "));
        Runs.play("between others", "addLot(2, 1, 5, 9, 10, 1, 1) = 0; addLot(2, 3, 7, 7, 10, 1, 1) = 1; ",
                "addLot(2, 2, 6, 8, 10, 1, 1) = 2; isOdd(0) = true; isOdd(1) = true; isOdd(2) = false;");
        Runs.play("as it came, on hold, without jars", "addLot(2, 9, 5, 5, 10, 1, 1) = 0; pass(20) = 20; ",
                "addLot(2, 9, 5, 5, 10, 1, 1) = 1; addLot(2, 9, 5, 5, 10, 1, 1) = 2; isOdd(0) = false; "
                + "isOdd(2) = false; ",
                "addLot(2, 8, 5, 5, 10, 1, 1) = 3; hold(3, true) = false; isOdd(3) = true; openJar(0, true) = 0; ",
                "isOdd(3) = true; isOdd(0) = false;");
        Runs.play("another on hold or without jars counts", "addLot(2, 5, 5, 5, 10, 1, 1) = 0; ",
                "addLot(2, 5, 5, 5, 10, 1, 1) = 1; addLot(2, 4, 5, 5, 10, 1, 1) = 2; hold(0, true) = false; ",
                "openJar(1, false) = 0; throwJar(0) = 10; isOdd(2) = true;");
    }

    /** "The chance that so many of 1 to 20 guesses, or more, are right is told in millionths, cut." */
    private static void chances() {
        StringBuilder rows = new StringBuilder();
        for (int all = 1; all <= 20; all++) {
            rows.append("chance(-1, ").append(all).append(")").append(ARGUMENT);
            for (int right = 0; right <= all; right++) {
                rows.append("chance(").append(right).append(", ").append(all).append(") = ");
                rows.append(millionths(right, all)).append("; ");
            }
            rows.append("chance(").append(all + 1).append(", ").append(all).append(")").append(ARGUMENT);
        }
        Runs.play("all chances", rows.toString());
        Runs.play("cut and no rest", "chance(0, 1) = 1000000; chance(1, 1) = 333333; chance(1, 2) = 555555; ",
                "chance(2, 2) = 111111; chance(3, 3) = 37037; chance(1, 3) = 703703; chance(12, 12) = 1; "
                + "chance(13, 13) = 0;");
    }

    /** Counts the guesses one by one: each right in one way and wrong in two. */
    private static String millionths(int right, int all) {
        BigInteger sum = BigInteger.ZERO;
        BigInteger chosen = BigInteger.ONE;
        for (int i = 0; i <= all; i++) {
            if (i >= right) {
                sum = sum.add(chosen.multiply(BigInteger.TWO.pow(all - i)));
            }
            chosen = chosen.multiply(BigInteger.valueOf(all - i)).divide(BigInteger.valueOf(i + 1));
        }
        return sum.multiply(BigInteger.valueOf(1000000)).divide(BigInteger.valueOf(3).pow(all)).toString();
    }

    /** The costs of portions, batches and what ships: cut, without a rest, and what the batch has no more. */
    private static void costs() {
        String jars = "addLot(0, 9, 9, 9, 30, 100, 9) = 0; openJar(0, false) = 0; openJar(0, false) = 1; "
                + "addBlend() = 0; ";
        Runs.play("a portion of a jar, cut", jars, "fromJar(0, 10) = 10; mix() = 0; test(0, 0) = true; ",
                "ship(0, 0, 0, 10) = 33; owes(0) = 33;");
        Runs.play("a portion of a jar, no rest", jars, "fromJar(0, 15) = 15; mix() = 0; test(0, 0) = true; ",
                "ship(0, 0, 0, 15) = 50; fromJar(1, 30) = 30; mix() = 1; test(1, 0) = true; ship(1, 0, 0, 30) = 100; ",
                "owes(0) = 150;");
        Runs.play("each portion is cut by itself", jars, "fromJar(0, 1) = 1; fromJar(0, 1) = 2; fromJar(0, 1) = 3; ",
                "fromJar(0, 1) = 4; mix() = 0; test(0, 0) = true; ship(0, 0, 0, 4) = 12;");
        Runs.play("a portion of a jar by the grams of a jar, not by what is left", jars, "fromJar(0, 29) = 29; "
                + "empty() = 29; ",
                "fromJar(0, 1) = 1; mix() = 0; test(0, 0) = true; ship(0, 0, 0, 1) = 3;");
        Runs.play("what ships, cut", jars, "fromJar(0, 10) = 10; fromJar(0, 10) = 20; mix() = 0; test(0, 0) = true; ",
                "ship(0, 0, 0, 7) = 23; ship(0, 0, 0, 6) = 19; ship(0, 0, 0, 6) = 20; ship(0, 0, 0, 1) = 4; "
                + "owes(0) = 66;");
        Runs.play("what ships, no rest", jars, "fromJar(0, 15) = 15; mix() = 0; test(0, 0) = true; "
                + "ship(0, 0, 0, 3) = 10; ",
                "ship(0, 0, 0, 6) = 20; ship(0, 0, 0, 6) = 20; batchLeft(0) = 0; owes(0) = 50;");
        Runs.play("a portion of a batch", jars, "fromJar(0, 10) = 10; fromJar(0, 10) = 20; mix() = 0; "
                + "fromBatch(0, 7) = 7; ",
                "fromBatch(0, 6) = 13; mix() = 1; test(0, 0) = true; test(1, 0) = true; ship(0, 0, 1, 7) = 24; ",
                "ship(1, 0, 2, 13) = 42;");
        Runs.play("the drum that is thrown away takes its cost along", jars, "fromJar(0, 15) = 15; mix() = 0; ",
                "fromBatch(0, 3) = 3; empty() = 3; test(0, 0) = true; ship(0, 0, 0, 12) = 40; fromJar(1, 3) = 3; ",
                "mix() = 1; test(1, 0) = true; ship(1, 0, 0, 3) = 10;");
        Runs.play("a cost of 0", "addLot(0, 9, 9, 9, 500, 1, 9) = 0; openJar(0, false) = 0; fromJar(0, 499) = 499; ",
                "mix() = 0; addBlend() = 0; test(0, 0) = true; ship(0, 0, 0, 499) = 0; owes(0) = 0; got(0) = 499; ",
                "openJar(0, false) = 1; fromJar(1, 500) = 500; mix() = 1; test(1, 0) = true; ship(1, 0, 0, 499) = 0; ",
                "ship(1, 0, 0, 1) = 1; owes(0) = 1;");
    }

    /** "A kitchen owes what was shipped to it", and got some of a batch that has a lot. */
    private static void kitchens() {
        String house = "addLot(0, 9, 9, 9, 50, 100, 2) = 0; addLot(0, 9, 9, 9, 50, 100, 2) = 1; openJar(0, false) = 0; "
                + "openJar(1, false) = 1; fromJar(0, 50) = 50; mix() = 0; fromJar(1, 25) = 25; fromBatch(0, 25) = 50; "
                + "mix() = 1; addBlend() = 0; test(0, 0) = true; test(1, 0) = true; recall(0) = 0; recall(1) = 0; ";
        Runs.play("kitchen by kitchen", house, "ship(0, 0, 0, 1) = 2; recall(0) = 1; recall(1) = 0; "
                + "gotOf(0, 0) = true; ",
                "gotOf(0, 1) = false; ship(1, 0, 0, 1) = 2; recall(0) = 1; recall(1) = 1; gotOf(0, 1) = true; ",
                Runs.times(1, 5, "gotOf(#, 0) = false; gotOf(#, 1) = false; got(#) = 0; owes(#) = 0; "
                + "ship(1, 0, #, 2) = 4; "
                + "gotOf(#, 0) = true; gotOf(#, 1) = true; got(#) = 2; owes(#) = 4; "), "recall(0) = 6; "
                + "recall(1) = 6; ",
                "got(0) = 2; owes(0) = 4; throwBatch(0) = 24; throwBatch(1) = 39; recall(0) = 6; "
                + "hold(0, true) = false; ",
                "recall(0) = 6; gotOf(5, 0) = true; got(5) = 2; isSound() = true;");
        Runs.play("one batch behind another", house, "fromJar(1, 25) = 25; mix() = 2; test(2, 0) = true; ",
                "ship(2, 0, 3, 1) = 2; gotOf(3, 0) = false; gotOf(3, 1) = true; ship(0, 0, 3, 1) = 2; ",
                "gotOf(3, 0) = true; gotOf(3, 1) = true; recall(0) = 1; recall(1) = 1; ship(0, 0, 2, 1) = 2; ",
                "recall(0) = 2; recall(1) = 1; got(3) = 2; owes(3) = 4;");
        Runs.play("a refused shipment is not got", house, "ship(0, 0, 0, 26)" + UNABLE, "recall(0) = 0; "
                + "gotOf(0, 0) = false; ",
                "got(0) = 0; owes(0) = 0;");
    }

    /** "Bought, in closed jars, in opened ones, of opened ones thrown away, put into the drum." */
    private static void accounts() {
        String house = "addLot(0, 9, 9, 9, 50, 100, 3) = 0; addLot(0, 9, 9, 9, 40, 100, 1) = 1; ";
        Runs.play("accounts", house, account(0, 150, 150, 0, 0, 0), account(1, 40, 40, 0, 0, 0),
                "openJar(0, false) = 0; ", account(0, 150, 100, 50, 0, 0),
                "fromJar(0, 20) = 20; ", account(0, 150, 100, 30, 0, 20),
                "throwJar(0) = 30; ", account(0, 150, 100, 0, 30, 20),
                "openJar(0, false) = 1; openJar(1, false) = 2; openJar(0, false) = 3; ",
                account(0, 150, 0, 100, 30, 20), account(1, 40, 0, 40, 0, 0),
                "fromJar(3, 50) = 70; empty() = 70; ", account(0, 150, 0, 50, 30, 70),
                "pass(8) = 8; ", account(0, 150, 0, 0, 80, 70), account(1, 40, 0, 0, 40, 0), "isSound() = true;");
        Runs.play("what becomes of batches", house, "openJar(0, false) = 0; fromJar(0, 20) = 20; mix() = 0; ",
                "fromBatch(0, 10) = 10; ", account(0, 150, 100, 30, 0, 20), "throwBatch(0) = 10; empty() = 10; ",
                account(0, 150, 100, 30, 0, 20), "hold(0, true) = false; ", account(0, 150, 100, 30, 0, 20));
    }

    private static String account(int lot, int bought, int closed, int opened, int thrown, int put) {
        return ("account(#, 'b') = " + bought + "; account(#, 'c') = " + closed + "; account(#, 'o') = " + opened
                + "; account(#, 't') = " + thrown + "; account(#, 'p') = " + put + "; ").replace("#", "" + lot);
    }

    /** The checksum, the share that was shipped, and the mean oil. */
    private static void sums() {
        String none = Runs.times(0, 5, "0 0 ");
        Runs.play("the checksum, thing by thing", "checksum() = " + sum(none + "0") + "; ",
                "addLot(0, 80, 60, 70, 50, 100, 3) = 0; checksum() = " + sum("3 " + none + "0") + "; ",
                "addLot(1, 80, 60, 70, 40, 100, 9) = 1; checksum() = " + sum("3 9 " + none + "0") + "; ",
                "openJar(0, false) = 0; checksum() = " + sum("2 9 50 " + none + "0") + "; ",
                "openJar(1, false) = 1; checksum() = " + sum("2 8 50 40 " + none + "0") + "; ",
                "fromJar(0, 10) = 10; checksum() = " + sum("2 8 40 40 " + none + "0") + "; ",
                "mix() = 0; checksum() = " + sum("2 8 40 40 10 80 60 70 " + none + "0") + "; ",
                "pass(2) = 2; checksum() = " + sum("2 8 40 40 10 80 60 70 " + none + "2") + "; ",
                "fromJar(1, 7) = 7; mix() = 1; checksum() = "
                + sum("2 8 40 33 10 80 60 70 7 78 57 68 " + none + "2") + "; ",
                "addBlend() = 0; addOffer(0, 10, 1, 1) = 0; test(0, 0) = true; hold(1, true) = false; checksum() = "
                + sum("2 8 40 33 10 80 60 70 7 78 57 68 " + none + "2") + "; ",
                "ship(0, 0, 0, 4) = 8; checksum() = "
                + sum("2 8 40 33 6 80 60 70 7 78 57 68 4 8 0 0 0 0 0 0 0 0 0 0 2") + "; ",
                "ship(0, 0, 5, 5) = 10; checksum() = "
                + sum("2 8 40 33 1 80 60 70 7 78 57 68 4 8 0 0 0 0 0 0 0 0 5 10 2") + ";");
        Runs.play("the share that was shipped", "addLot(0, 80, 60, 70, 50, 100, 3) = 0; openJar(0, false) = 0; ",
                "fromJar(0, 3) = 3; mix() = 0; shippedShare() = 0.0; addBlend() = 0; addBlend() = 1; "
                + "test(0, 0) = true; ",
                "test(0, 1) = true; ship(0, 0, 0, 1) = 2; shippedShare() = " + (double) (1f / 3f)
                + "; ship(0, 1, 5, 1) = 2; shippedShare() = " + (double) (2f / 3f) + "; fromBatch(0, 1) = 1; "
                + "mix() = 1; ",
                "shippedShare() = 0.5; test(1, 1) = true; ship(1, 1, 5, 1) = 2; shippedShare() = 0.75;");
        Runs.play("the mean oil", "addLot(0, 80, 61, 70, 50, 100, 3) = 0; meanOil() = 61.0; pass(1) = 1; "
                + "addLot(0, 80, 60, 70, 50, 100, 3) = 1; meanOil() = 60.5; pass(1) = 2; meanOil() = 60.0; "
                + "pass(1) = 3; ",
                "meanOil() = 59.5; addLot(0, 80, 1, 70, 50, 100, 3) = 2; meanOil() = 40.0; openJar(0, false) = 0; ",
                "openJar(0, false) = 1; openJar(0, false) = 2; hold(1, true) = false; meanOil() = 40.0; pass(1) = 4; ",
                "meanOil() = " + 119.0 / 3 + ";");
    }

    private static long sum(String numbers) {
        long sum = 7;
        for (String number : numbers.trim().split(" +")) {
            sum = 31 * sum + Long.parseLong(number);
        }
        return sum;
    }
}
