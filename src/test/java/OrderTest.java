/**
 * "If several exceptions apply, the one that is listed first is thrown": for each two rows behind a method for which
 * that can be, calls to which both apply, and the call to which only the second one does.
 */
public final class OrderTest {
    private static final String INDEX = Runs.INDEX;
    private static final String ARGUMENT = Runs.ARGUMENT;
    private static final String STATE = Runs.STATE;
    private static final String UNABLE = Runs.UNABLE;
    private static final String NONE = Runs.NONE;
    /** Two lots with an opened jar each, the batch 0 of the lot 0, tested for the blend 0. */
    private static final String HOUSE = "addLot(0, 80, 60, 70, 50, 20, 2) = 0; addLot(1, 70, 90, 60, 50, 30, 3) = 1; "
            + "openJar(0, false) = 0; openJar(1, false) = 1; fromJar(0, 20) = 20; mix() = 0; addBlend() = 0; "
            + "test(0, 0) = true; ";
    private static final String SIX = Runs.times(1, 6, "fromJar(1, 1) = #; ");

    public static void main(String[] args) {
        addLot();
        openJar();
        numbersAndAccounts();
        pass();
        fromJar();
        fromBatch();
        mix();
        typeAndAddOffer();
        ship();
        needs();
        mixtures();
        Runs.end();
    }

    private static void addLot() {
        Runs.play("addLot, a number and the count", Runs.times(0, 11, "addLot(3, 1, 2, 3, 10, 1, 1) = #; "),
                "addLot(6, 1, 2, 3, 10, 1, 1)" + ARGUMENT, "addLot(-1, 1, 2, 3, 10, 1, 1)" + ARGUMENT,
                "addLot(3, 100, 2, 3, 10, 1, 1)" + ARGUMENT, "addLot(3, 1, 100, 3, 10, 1, 1)" + ARGUMENT,
                "addLot(3, 1, 2, -1, 10, 1, 1)" + ARGUMENT, "addLot(3, 1, 2, 3, 9, 1, 1)" + ARGUMENT,
                "addLot(3, 1, 2, 3, 10, 1000, 1)" + ARGUMENT, "addLot(3, 1, 2, 3, 10, 1, 21)" + ARGUMENT,
                "addLot(3, 1, 2, 3, 10, 1, 1)" + STATE);
    }

    private static void openJar() {
        Runs.play("openJar", "addLot(0, 9, 9, 9, 10, 1, 20) = 0; addLot(1, 9, 9, 9, 10, 1, 20) = 1; pass(1) = 1; ",
                "addLot(1, 9, 9, 9, 10, 1, 1) = 2; ", Runs.times(0, 19, "openJar(0, false) = #; "),
                Runs.times(20, 28, "openJar(1, false) = #; "), "openJar(2, false)" + UNABLE, "openJar(1, false) = 29; ",
                "openJar(3, false)" + INDEX, "openJar(-1, true)" + INDEX, "openJar(0, true)" + UNABLE,
                "openJar(0, false)" + UNABLE, "openJar(2, false)" + UNABLE, "openJar(2, true)" + STATE,
                "openJar(1, false)" + STATE, "hold(1, true) = false; openJar(1, false)" + UNABLE,
                "openJar(1, true)" + UNABLE, "openJar(2, false)" + STATE);
    }

    private static void numbersAndAccounts() {
        Runs.play("a thing and a number", HOUSE, "lotNumber(2, 3)" + INDEX, "lotNumber(-1, -1)" + INDEX,
                "lotNumber(1, 3)" + ARGUMENT, "jarNumber(2, 3)" + INDEX, "jarNumber(-1, -1)" + INDEX,
                "jarNumber(1, -1)" + ARGUMENT, "batchNumber(1, 3)" + INDEX, "batchNumber(-1, -1)" + INDEX,
                "batchNumber(0, 3)" + ARGUMENT, "band(1, 3, true)" + INDEX, "band(-1, -1, false)" + INDEX,
                "band(0, 3, true)" + ARGUMENT, "account(2, 'x')" + INDEX, "account(-1, 'x')" + INDEX,
                "account(1, 'x')" + ARGUMENT);
    }

    private static void pass() {
        StringBuilder weeks = new StringBuilder();
        for (int week = 20; week <= 480; week += 20) {
            weeks.append("pass(20) = ").append(week).append("; ");
        }
        Runs.play("pass", weeks.toString(), "pass(21)" + ARGUMENT, "pass(5) = 485; pass(16)" + STATE,
                "pass(20)" + STATE, "pass(21)" + ARGUMENT, "pass(2147483647)" + ARGUMENT, "pass(15) = 500; ",
                "pass(21)" + ARGUMENT, "pass(0)" + ARGUMENT, "pass(-1)" + ARGUMENT, "pass(1)" + STATE);
    }

    private static void fromJar() {
        Runs.play("fromJar, room in the drum", HOUSE, "fromJar(2, 0)" + INDEX, "fromJar(-1, -1)" + INDEX,
                "hold(1, true) = false; fromJar(1, 0)" + ARGUMENT, "fromJar(1, -2147483648)" + ARGUMENT,
                "fromJar(1, 1)" + UNABLE, "throwJar(0) = 30; fromJar(0, 0)" + ARGUMENT, "fromJar(0, 1)" + UNABLE);
        Runs.play("fromJar, six portions", HOUSE, SIX, "fromJar(2, 1)" + INDEX, "fromJar(2, 0)" + INDEX,
                "fromJar(0, 0)" + ARGUMENT, "fromJar(0, 31)" + UNABLE, "fromJar(0, 30)" + STATE,
                "hold(0, true) = false; fromJar(0, 1)" + UNABLE, "fromJar(0, 0)" + ARGUMENT, "fromJar(1, 1)" + STATE);
        Runs.play("fromJar, more than 5000 grams", "addLot(0, 9, 9, 9, 500, 1, 20) = 0; ",
                Runs.times(0, 11, "openJar(0, false) = #; "), "fromJar(0, 500) = 500; fromJar(1, 500) = 1000; ",
                "fromJar(2, 500) = 1500; fromJar(3, 500) = 2000; fromJar(4, 500) = 2500; fromJar(5, 500) = 3000; ",
                "mix() = 0; fromBatch(0, 3000) = 3000; fromJar(6, 500) = 3500; fromJar(7, 500) = 4000; ",
                "fromJar(8, 500) = 4500; fromJar(9, 499) = 4999; fromJar(10, 2)" + STATE,
                "fromJar(9, 2)" + UNABLE, "fromJar(10, 501)" + UNABLE, "fromJar(12, 2)" + INDEX,
                "fromJar(10, 0)" + ARGUMENT, "hold(0, true) = false; fromJar(10, 2)" + UNABLE);
    }

    private static void fromBatch() {
        Runs.play("fromBatch, room in the drum", HOUSE, "fromBatch(1, 0)" + INDEX, "fromBatch(-1, -1)" + INDEX,
                "hold(0, true) = false; fromBatch(0, 0)" + ARGUMENT, "fromBatch(0, 1)" + UNABLE,
                "hold(0, false) = true; throwBatch(0) = 20; fromBatch(0, 0)" + ARGUMENT, "fromBatch(0, 1)" + UNABLE);
        Runs.play("fromBatch, six portions", HOUSE, SIX, "fromBatch(1, 1)" + INDEX, "fromBatch(1, 0)" + INDEX,
                "fromBatch(0, 0)" + ARGUMENT, "fromBatch(0, 21)" + UNABLE, "fromBatch(0, 20)" + STATE,
                "hold(0, true) = false; fromBatch(0, 1)" + UNABLE, "fromBatch(0, 0)" + ARGUMENT);
    }

    private static void mix() {
        Runs.play("mix", HOUSE, Runs.times(1, 18, "fromJar(1, 1) = 1; mix() = #; "), "fromBatch(0, 1) = 1; ",
                "hold(0, true) = false; mix()" + UNABLE, "hold(0, false) = true; mix() = 19; mix()" + UNABLE,
                "fromBatch(0, 1) = 1; fromJar(1, 1) = 2; mix()" + STATE, "hold(0, true) = false; mix()" + UNABLE,
                "hold(0, false) = true; hold(1, true) = false; mix()" + UNABLE, "hold(1, false) = true; mix()" + STATE,
                "empty() = 2; mix()" + UNABLE);
    }

    private static void typeAndAddOffer() {
        Runs.play("type, a sign and the count", Runs.times(1, 8, "type('m') = #; "), "type('M')" + ARGUMENT,
                "type('`')" + ARGUMENT, "type('{')" + ARGUMENT, "type('\uffff')" + ARGUMENT, "type('m')" + STATE);
        Runs.play("addOffer, a number and the count", Runs.times(0, 5, "addOffer(0, 10, 1, 1) = #; "),
                "addOffer(6, 10, 1, 1)" + ARGUMENT, "addOffer(-1, 10, 1, 1)" + ARGUMENT,
                "addOffer(0, 9, 1, 1)" + ARGUMENT, "addOffer(0, 501, 1, 1)" + ARGUMENT,
                "addOffer(0, 10, 0, 1)" + ARGUMENT, "addOffer(0, 10, 1000, 1)" + ARGUMENT,
                "addOffer(0, 10, 1, 0)" + ARGUMENT, "addOffer(0, 10, 1, 10)" + ARGUMENT,
                "addOffer(0, 10, 1, 1)" + STATE);
    }

    private static void ship() {
        Runs.play("ship, a thing and grams", HOUSE, "ship(1, 0, 0, 0)" + INDEX, "ship(0, 1, 0, 0)" + INDEX,
                "ship(0, 0, 6, 0)" + INDEX, "ship(0, 0, -1, 0)" + INDEX, "ship(-1, -1, -1, -1)" + INDEX,
                "ship(0, 0, 5, 0)" + ARGUMENT);
        Runs.play("ship, a thing and what it is not able to", HOUSE, "hold(0, true) = false; ship(0, 0, 6, 1)" + INDEX,
                "ship(0, 1, 0, 1)" + INDEX, "hold(0, false) = true; ship(0, 0, -1, 21)" + INDEX,
                "ship(1, 0, 0, 21)" + INDEX, "addBlend() = 1; ship(0, 1, 6, 1)" + INDEX, "ship(0, 1, 5, 1)" + UNABLE);
        Runs.play("ship, grams and a lot on hold", HOUSE, "hold(0, true) = false; ship(0, 0, 0, 0)" + ARGUMENT,
                "ship(0, 0, 0, -21)" + ARGUMENT, "ship(0, 0, 0, 1)" + UNABLE);
        Runs.play("ship, grams and no test", HOUSE, "addBlend() = 1; ship(0, 1, 0, 0)" + ARGUMENT,
                "ship(0, 1, 0, 1)" + UNABLE, "test(0, 1) = true; ship(0, 1, 0, 0)" + ARGUMENT,
                "ship(0, 1, 0, 1) = 0;");
        Runs.play("ship, grams and not in it", HOUSE, "typing mild; narrow(0) = true; test(0, 0) = false; ",
                "ship(0, 0, 0, 0)" + ARGUMENT, "ship(0, 0, 0, 1)" + UNABLE, "ship(0, 0, 0, 21)" + UNABLE);
        Runs.play("ship, grams and none left", HOUSE, "throwBatch(0) = 20; ship(0, 0, 0, 0)" + ARGUMENT,
                "ship(0, 0, 0, 1)" + UNABLE);
    }

    private static void needs() {
        String offers = "addOffer(0, 50, 20, 3) = 0; addOffer(0, 20, 9, 9) = 1; ";
        for (String call : new String[] {"cheapest(@)", "bound(@)"}) {
            Runs.play(call + ", a number and offers", offers, call.replace("@", "6, 331") + ARGUMENT,
                    call.replace("@", "-1, 1") + ARGUMENT, call.replace("@", "0, 2001") + ARGUMENT,
                    call.replace("@", "1, 0") + ARGUMENT, call.replace("@", "1, 2001") + ARGUMENT,
                    call.replace("@", "0, 2000") + NONE, call.replace("@", "0, 331") + NONE);
        }
        Runs.play("jarsOf, an offer and a number", offers, "jarsOf(6, 1, 2)" + INDEX, "jarsOf(0, 0, -1)" + INDEX,
                "jarsOf(0, 2001, 2)" + INDEX, "jarsOf(-1, -1, 2147483647)" + INDEX, "jarsOf(6, 1, 1)" + ARGUMENT);
        Runs.play("jarsOf, an offer and offers", offers, "jarsOf(0, 331, 2)" + INDEX, "jarsOf(1, 1, -1)" + INDEX,
                "jarsOf(0, 331, 1)" + NONE);
        Runs.play("jarsOf, a number and offers", offers, "jarsOf(6, 331, 0)" + ARGUMENT, "jarsOf(1, 0, 0)" + ARGUMENT,
                "jarsOf(0, 2001, 0)" + ARGUMENT, "jarsOf(0, 2000, 0)" + NONE, "jarsOf(1, 1, 1)" + NONE);
    }

    private static void mixtures() {
        Runs.play("mixtures, a thing and none", "addLot(0, 9, 9, 9, 10, 1, 1) = 0; addBlend() = 0; typing hot; ",
                "narrow(0) = true; mixtureCost(1)" + INDEX, "mixtureCost(-1)" + INDEX, "mixturePart(0, 1)" + INDEX,
                "mixturePart(1, 0)" + INDEX, "mixturePart(0, -1)" + INDEX, "mixturePart(-1, 0)" + INDEX,
                "mixtureCost(0)" + NONE, "mixturePart(0, 0)" + NONE);
    }
}
