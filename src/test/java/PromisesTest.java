/** Each promise by itself: ordinary inputs, the edges that the document names, and wrong inputs. */
public final class PromisesTest {
    private static final String INDEX = Runs.INDEX;
    private static final String ARGUMENT = Runs.ARGUMENT;
    private static final String STATE = Runs.STATE;
    private static final String UNABLE = Runs.UNABLE;
    private static final String NONE = Runs.NONE;
    /** Two lots of the spice 0 with an opened jar each, as in the document's example. */
    private static final String TWO = "addLot(0, 80, 60, 70, 50, 20, 2) = 0; pass(2) = 2; "
            + "addLot(0, 70, 90, 60, 40, 30, 3) = 1; openJar(0, false) = 0; openJar(1, true) = 1; ";
    /** The batch 0 of 30 grams of the lot 0 and 20 of the lot 1, with the numbers 76, 71 and 66, for 27. */
    private static final String MIXED = TWO + "fromJar(0, 30) = 30; fromJar(1, 20) = 50; mix() = 0; ";
    private static final String BLEND = MIXED + "addBlend() = 0; ";

    public static void main(String[] args) {
        example();
        promise1();
        promise2();
        promises3To5();
        promise6();
        promises7To9();
        promises10And11();
        promise12();
        promise13();
        promises14And15();
        promise16();
        promises17To20();
        promises21To24();
        promises25And26();
        promise27();
        promises28To31();
        promise32();
        promises33And34();
        promise35();
        promises36And37();
        promise38();
        promise39();
        promise40();
        promise41();
        promises42And43();
        promise44();
        Runs.end();
    }

    private static String times(int from, int to, String row) {
        return Runs.times(from, to, row);
    }

    private static void example() {
        Runs.play("the document's example",
                "addLot(0, 80, 60, 70, 50, 20, 2) = 0; pass(2) = 2; addLot(0, 70, 90, 60, 40, 30, 3) = 1;",
                "lotNumber(0, 1) = 59; openJar(0, false) = 0; openJar(1, true) = 1; jarLeft(1) = 40;",
                "jarNumber(0, 2) = 70; closed(0) = 1; fromJar(0, 30) = 30; fromJar(1, 20) = 50; inDrum() = 50;",
                "mix() = 0; batchNumber(0, 0) = 76; batchLeft(0) = 50; hasLot(0, 1) = true; addBlend() = 0;",
                "type('h') = 1; type('o') = 2; type('t') = 3; narrow(0) = true; band(0, 0, false) = 60;",
                "isIn(0, 0) = true; test(0, 0) = true; ship(0, 0, 1, 10) = 5; owes(1) = 5; got(1) = 10;",
                "gotOf(1, 0) = true; recall(1) = 1; fromBatch(0, 15) = 15; empty() = 15; mixtureCost(0) = 40;",
                "mixturePart(0, 0) = 10; isOdd(0) = false; addOffer(0, 50, 20, 3) = 0; addOffer(0, 20, 9, 9) = 1;",
                "cheapest(0, 110) = 47; jarsOf(0, 110, 1) = 3; bound(0, 110) = 44.0; chance(3, 5) = 209876;",
                "hold(1, true) = false; throwBatch(0) = 25; throwJar(0) = 20; account(0, 't') = 20; week() = 2;",
                "shippedShare() = 0.20000000298023224; meanOil() = 74.5; checksum() = 7717532694155815268;",
                "isSound() = true;");
    }

    private static void promise1() {
        Runs.play("promise 1", "week() = 0; inDrum() = 0; checksum() = 4902127418729333593; isSound() = true; "
                + "closed(0)"
                + INDEX, "band(0, 0, true)" + INDEX, "jarsOf(0, 1, 0)" + INDEX, "jarLeft(0)" + INDEX,
                "batchLeft(0)" + INDEX, "got(0) = 0; owes(5) = 0; addLot(0, 0, 0, 0, 10, 1, 1) = 0; ",
                "addBlend() = 0; addOffer(0, 10, 1, 1) = 0;");
    }

    private static void promise2() {
        Runs.play("promise 2, ranges",
                "addLot(-1, 0, 0, 0, 10, 1, 1)" + ARGUMENT, "addLot(6, 0, 0, 0, 10, 1, 1)" + ARGUMENT,
                "addLot(0, -1, 0, 0, 10, 1, 1)" + ARGUMENT, "addLot(0, 100, 0, 0, 10, 1, 1)" + ARGUMENT,
                "addLot(0, 0, -1, 0, 10, 1, 1)" + ARGUMENT, "addLot(0, 0, 100, 0, 10, 1, 1)" + ARGUMENT,
                "addLot(0, 0, 0, -1, 10, 1, 1)" + ARGUMENT, "addLot(0, 0, 0, 100, 10, 1, 1)" + ARGUMENT,
                "addLot(0, 0, 0, 0, 9, 1, 1)" + ARGUMENT, "addLot(0, 0, 0, 0, 501, 1, 1)" + ARGUMENT,
                "addLot(0, 0, 0, 0, 10, 0, 1)" + ARGUMENT, "addLot(0, 0, 0, 0, 10, 1000, 1)" + ARGUMENT,
                "addLot(0, 0, 0, 0, 10, 1, 0)" + ARGUMENT, "addLot(0, 0, 0, 0, 10, 1, 21)" + ARGUMENT,
                "addLot(0, -2147483648, 2147483647, 0, 10, 1, 1)" + ARGUMENT,
                "addLot(0, 0, 0, 0, 10, 1, 1) = 0; addLot(5, 99, 99, 99, 500, 999, 20) = 1; ",
                "closed(0) = 1; closed(1) = 20; lotNumber(1, 0) = 99; lotNumber(0, 2) = 0; account(1, 'b') = 10000;");
        Runs.play("promise 2, its week", "pass(20) = 20; addLot(1, 50, 40, 30, 20, 9, 2) = 0; lotNumber(0, 0) = 50; ",
                "lotNumber(0, 1) = 40; lotNumber(0, 2) = 30; closed(0) = 2; pass(4) = 24; lotNumber(0, 1) = 38;");
        Runs.play("promise 2, twelve", times(0, 11, "addLot(3, 1, 2, 3, 10, 1, 1) = #; "),
                "addLot(3, 1, 2, 3, 10, 1, 1)" + STATE, "addLot(6, 1, 2, 3, 10, 1, 1)" + ARGUMENT, "closed(11) = 1;");
    }

    private static void promises3To5() {
        Runs.play("promise 3", TWO, "closed(0) = 1; closed(1) = 2; openJar(0, false) = 2; closed(0) = 0; ",
                "closed(-1)" + INDEX, "closed(2)" + INDEX, "closed(-2147483648)" + INDEX);
        Runs.play("promise 4", "addLot(0, 80, 60, 70, 50, 20, 2) = 0; addLot(0, 2, 2, 2, 50, 20, 2) = 1; ",
                "lotNumber(0, 0) = 80; lotNumber(0, 1) = 60; lotNumber(0, 2) = 70; pass(1) = 1; "
                + "lotNumber(0, 0) = 80; ",
                "lotNumber(0, 1) = 60; lotNumber(0, 2) = 70; pass(1) = 2; lotNumber(0, 1) = 59; "
                + "lotNumber(0, 2) = 70; ",
                "pass(1) = 3; lotNumber(0, 0) = 80; lotNumber(0, 1) = 59; lotNumber(0, 2) = 69; pass(1) = 4; ",
                "lotNumber(0, 0) = 79; lotNumber(0, 1) = 58; lotNumber(0, 2) = 69; lotNumber(1, 1) = 0; "
                + "pass(8) = 12; ",
                "lotNumber(0, 0) = 77; lotNumber(0, 1) = 54; lotNumber(0, 2) = 66; lotNumber(1, 0) = 0; ",
                "lotNumber(1, 1) = 0; lotNumber(1, 2) = 0; lotNumber(2, 0)" + INDEX, "lotNumber(-1, 9)" + INDEX,
                "lotNumber(0, -1)" + ARGUMENT, "lotNumber(0, 3)" + ARGUMENT);
        Runs.play("promise 5", TWO, "hold(0, true) = false; hold(0, true) = true; hold(1, false) = false; ",
                "openJar(0, true)" + UNABLE, "hold(0, false) = true; hold(0, false) = false; openJar(0, true) = 2; ",
                "hold(2, true)" + INDEX, "hold(-1, false)" + INDEX);
    }

    private static void promise6() {
        Runs.play("promise 6, the oldest first", "addLot(0, 9, 9, 9, 10, 1, 2) = 0; "
                + "addLot(1, 9, 9, 9, 10, 1, 1) = 1; ",
                "addLot(0, 9, 9, 9, 10, 1, 1) = 2; pass(1) = 1; addLot(0, 9, 9, 9, 30, 1, 9) = 3; ",
                "openJar(3, false)" + UNABLE, "openJar(2, false) = 0; openJar(3, false)" + UNABLE,
                "openJar(0, false) = 1; ",
                "openJar(3, true) = 2; jarLeft(2) = 30; openJar(3, false)" + UNABLE, "hold(0, true) = false; ",
                "openJar(3, false) = 3; hold(0, false) = true; openJar(3, false)" + UNABLE, "openJar(0, false) = 4; ",
                "openJar(0, false)" + UNABLE, "openJar(0, true)" + UNABLE, "openJar(3, false) = 5; closed(3) = 6; ",
                "openJar(4, true)" + INDEX, "openJar(-1, false)" + INDEX, "hold(3, true) = false; "
                + "openJar(3, true)" + UNABLE);
        Runs.play("promise 6, other spices", "addLot(0, 9, 9, 9, 10, 1, 2) = 0; pass(1) = 1; ",
                "addLot(1, 9, 9, 9, 10, 1, 1) = 1; openJar(1, false) = 0; jarLeft(0) = 10; closed(0) = 2;");
        Runs.play("promise 6, thirty", "addLot(0, 9, 9, 9, 10, 1, 20) = 0; addLot(1, 9, 9, 9, 10, 1, 20) = 1; ",
                times(0, 19, "openJar(0, false) = #; "), times(20, 29, "openJar(1, false) = #; "),
                "openJar(1, false)" + STATE, "openJar(0, false)" + UNABLE, "openJar(2, false)" + INDEX,
                "hold(1, true) = false; openJar(1, false)" + UNABLE, "jarLeft(29) = 10; jarLeft(30)" + INDEX);
    }

    private static void promises7To9() {
        Runs.play("promise 7", TWO, "jarLeft(0) = 50; jarLeft(1) = 40; fromJar(1, 7) = 7; jarLeft(1) = 33; ",
                "jarLeft(2)" + INDEX, "jarLeft(-1)" + INDEX);
        Runs.play("promise 8", "addLot(0, 80, 60, 3, 50, 20, 2) = 0; pass(3) = 3; openJar(0, false) = 0; ",
                "jarNumber(0, 0) = 80; jarNumber(0, 1) = 59; jarNumber(0, 2) = 2; pass(1) = 4; "
                + "jarNumber(0, 0) = 78; ",
                "jarNumber(0, 1) = 57; jarNumber(0, 2) = 1; pass(2) = 6; jarNumber(0, 0) = 76; "
                + "jarNumber(0, 1) = 54; ",
                "jarNumber(0, 2) = 0; pass(20) = 26; jarNumber(0, 0) = 51; jarNumber(0, 1) = 24; "
                + "jarNumber(0, 2) = 0; ",
                "jarNumber(0, 3)" + ARGUMENT, "jarNumber(0, -1)" + ARGUMENT, "jarNumber(1, 3)" + INDEX,
                "jarNumber(-1, 0)" + INDEX);
        Runs.play("promise 9", TWO, "fromJar(0, 20) = 20; throwJar(0) = 30; jarLeft(0) = 0; throwJar(0) = 0; ",
                "account(0, 't') = 30; account(0, 'o') = 0; account(1, 't') = 0; account(1, 'o') = 40; "
                + "fromJar(0, 1)" + UNABLE,
                "hold(1, true) = false; throwJar(1) = 40; throwJar(2)" + INDEX, "throwJar(-1)" + INDEX,
                "isSound() = true;");
    }

    private static void promises10And11() {
        Runs.play("promise 10, jars", "addLot(0, 80, 60, 70, 50, 20, 3) = 0; openJar(0, false) = 0; pass(1) = 1; ",
                "openJar(0, false) = 1; fromJar(0, 8) = 8; pass(6) = 7; jarLeft(0) = 42; account(0, 't') = 0; "
                + "pass(1) = 8; ",
                "jarLeft(0) = 0; jarLeft(1) = 50; account(0, 't') = 42; account(0, 'o') = 50; inDrum() = 8; "
                + "pass(1) = 9; ",
                "jarLeft(1) = 0; account(0, 't') = 92; account(0, 'c') = 50; isSound() = true; "
                + "openJar(0, false) = 2; ",
                "pass(20) = 29; jarLeft(2) = 0; account(0, 't') = 142; pass(20) = 49; account(0, 't') = 142;");
        Runs.play("promise 10, a jar of a lot on hold", "addLot(0, 80, 60, 70, 50, 20, 3) = 0; "
                + "openJar(0, false) = 0; ",
                "hold(0, true) = false; pass(8) = 8; jarLeft(0) = 0; account(0, 't') = 50;");
        Runs.play("promises 10 and 11, ranges", "pass(0)" + ARGUMENT, "pass(-1)" + ARGUMENT, "pass(21)" + ARGUMENT,
                "pass(2147483647)" + ARGUMENT, "pass(1) = 1; week() = 1;");
        StringBuilder weeks = new StringBuilder();
        for (int week = 20; week <= 480; week += 20) {
            weeks.append("pass(20) = ").append(week).append("; ");
        }
        Runs.play("promises 10 and 11, the last week", weeks.toString(), "pass(19) = 499; pass(2)" + STATE,
                "pass(21)" + ARGUMENT, "week() = 499; pass(1) = 500; pass(1)" + STATE, "pass(20)" + STATE,
                "week() = 500;");
    }

    private static void promise12() {
        Runs.play("promise 12", TWO, "fromJar(0, 0)" + ARGUMENT, "fromJar(0, -2147483648)" + ARGUMENT,
                "fromJar(2, 0)" + INDEX, "fromJar(-1, 1)" + INDEX, "fromJar(0, 51)" + UNABLE,
                "fromJar(0, 2147483647)" + UNABLE, "fromJar(0, 50) = 50; fromJar(0, 1)" + UNABLE,
                "account(0, 'p') = 50; account(0, 'o') = 0; hold(1, true) = false; fromJar(1, 0)" + ARGUMENT,
                "fromJar(1, 1)" + UNABLE, "hold(1, false) = true; hold(0, true) = false; fromJar(1, 1) = 51;");
        Runs.play("promise 12, six portions", TWO, times(1, 6, "fromJar(0, 1) = #; "), "fromJar(0, 1)" + STATE,
                "fromJar(0, 45)" + UNABLE, "fromJar(0, 0)" + ARGUMENT, "jarLeft(0) = 44; empty() = 6; "
                + "fromJar(0, 1) = 1;");
        Runs.play("promise 12, numbers as they are then", "addLot(0, 80, 60, 70, 50, 20, 2) = 0; "
                + "openJar(0, false) = 0; ",
                "fromJar(0, 10) = 10; pass(6) = 6; mix() = 0; batchNumber(0, 0) = 80; batchNumber(0, 1) = 60; ",
                "batchNumber(0, 2) = 70; fromJar(0, 10) = 10; pass(1) = 7; mix() = 1; batchNumber(1, 0) = 73; ",
                "batchNumber(1, 1) = 51; batchNumber(1, 2) = 62;");
    }

    private static void promise13() {
        Runs.play("promise 13", MIXED, "fromBatch(1, 0)" + INDEX, "fromBatch(-1, 1)" + INDEX,
                "fromBatch(0, 0)" + ARGUMENT,
                "fromBatch(0, 51)" + UNABLE, "fromBatch(0, 20) = 20; batchLeft(0) = 30; fromBatch(0, 31)" + UNABLE,
                "hold(0, true) = false; fromBatch(0, 1)" + UNABLE, "fromBatch(0, 0)" + ARGUMENT,
                "hold(0, false) = true; ",
                "hold(1, true) = false; fromBatch(0, 1)" + UNABLE, "hold(1, false) = true; fromBatch(0, 30) = 50; ",
                "fromBatch(0, 1)" + UNABLE, "mix() = 1; batchLeft(1) = 50; batchNumber(1, 0) = 76; "
                + "batchNumber(1, 1) = 71; ",
                "batchNumber(1, 2) = 66; hasLot(1, 0) = true; hasLot(1, 1) = true; pass(9) = 11; "
                + "batchNumber(1, 1) = 71;");
        Runs.play("promise 13, six portions", MIXED, times(1, 6, "fromBatch(0, 1) = #; "), "fromBatch(0, 1)" + STATE,
                "fromJar(0, 1)" + STATE, "fromBatch(0, 45)" + UNABLE, "batchLeft(0) = 44;");
        String jars = "addLot(0, 9, 9, 9, 500, 1, 20) = 0; addLot(0, 9, 9, 9, 500, 1, 20) = 1; ";
        String opened = times(0, 9, "openJar(0, true) = #; ")
                + times(10, 11, "openJar(1, true) = #; ");
        Runs.play("promise 13, 5000 grams", jars, opened, "fromJar(0, 500) = 500; fromJar(1, 500) = 1000; ",
                "fromJar(2, 500) = 1500; fromJar(3, 500) = 2000; fromJar(4, 500) = 2500; fromJar(5, 499) = 2999; "
                + "mix() = 0; ",
                "fromJar(6, 500) = 500; fromJar(7, 500) = 1000; fromJar(8, 500) = 1500; fromJar(9, 500) = 2000; "
                + "mix() = 1; ",
                "fromBatch(0, 2999) = 2999; fromBatch(1, 2000) = 4999; fromJar(10, 2)" + STATE,
                "fromJar(5, 1) = 5000; ",
                "fromJar(10, 1)" + STATE, "inDrum() = 5000; mix() = 2; fromJar(10, 1) = 1; "
                + "fromBatch(2, 5000)" + STATE,
                "fromBatch(2, 5001)" + UNABLE, "fromBatch(2, 4999) = 5000; fromBatch(2, 1)" + STATE,
                "fromBatch(2, 2)" + UNABLE, "empty() = 5000; batchLeft(2) = 1;");
    }

    private static void promises14And15() {
        Runs.play("promise 14", TWO, "inDrum() = 0; fromJar(0, 3) = 3; inDrum() = 3; fromJar(1, 4) = 7; "
                + "inDrum() = 7; ",
                "mix() = 0; inDrum() = 0;");
        Runs.play("promise 15", TWO, "empty() = 0; fromJar(0, 30) = 30; fromJar(1, 4) = 34; hold(0, true) = false; ",
                "empty() = 34; empty() = 0; inDrum() = 0; mix()" + UNABLE, "jarLeft(0) = 20; account(0, 'p') = 30; ",
                "account(0, 't') = 0; hold(0, true) = true; fromJar(1, 1) = 1; mix() = 0; hasLot(0, 0) = false; ",
                "hasLot(0, 1) = true; batchNumber(0, 0) = 70; batchLeft(0) = 1; isSound() = true;");
        Runs.play("promise 15, the cost is gone too", TWO, "fromJar(0, 30) = 30; empty() = 30; "
                + "fromJar(1, 4) = 4; mix() = 0; ",
                "addBlend() = 0; test(0, 0) = true; ship(0, 0, 0, 4) = 3;");
    }

    private static void promise16() {
        Runs.play("promise 16", TWO, "mix()" + UNABLE, "fromJar(0, 30) = 30; fromJar(1, 20) = 50; "
                + "hold(1, true) = false; ",
                "mix()" + UNABLE, "hold(1, false) = true; hold(0, true) = false; mix()" + UNABLE,
                "hold(0, false) = true; ",
                "mix() = 0; inDrum() = 0; mix()" + UNABLE, "fromBatch(0, 1) = 1; hold(1, true) = false; "
                + "mix()" + UNABLE,
                "hold(1, false) = true; mix() = 1; batchLeft(1) = 1;");
        Runs.play("promise 16, twenty", "addLot(0, 80, 60, 70, 50, 20, 2) = 0; openJar(0, false) = 0; ",
                times(0, 19, "fromJar(0, 1) = 1; mix() = #; "), "mix()" + UNABLE, "fromJar(0, 1) = 1; mix()" + STATE,
                "inDrum() = 1; hold(0, true) = false; mix()" + UNABLE, "batchLeft(19) = 1; batchLeft(20)" + INDEX);
    }

    private static void promises17To20() {
        Runs.play("promise 17", MIXED, "batchLeft(0) = 50; fromBatch(0, 8) = 8; batchLeft(0) = 42; "
                + "batchLeft(1)" + INDEX,
                "batchLeft(-1)" + INDEX, "mix() = 1; batchLeft(1) = 8;");
        Runs.play("promise 18", MIXED, "batchNumber(0, 0) = 76; batchNumber(0, 1) = 71; batchNumber(0, 2) = 66; ",
                "pass(20) = 22; batchNumber(0, 0) = 76; batchNumber(0, 3)" + ARGUMENT,
                "batchNumber(0, -1)" + ARGUMENT,
                "batchNumber(1, 3)" + INDEX, "batchNumber(-1, 0)" + INDEX);
        Runs.play("promise 18, cut", "addLot(0, 1, 2, 99, 50, 20, 2) = 0; addLot(1, 2, 0, 98, 50, 20, 2) = 1; ",
                "openJar(0, false) = 0; openJar(1, false) = 1; fromJar(0, 1) = 1; fromJar(1, 2) = 3; mix() = 0; ",
                "batchNumber(0, 0) = 1; batchNumber(0, 1) = 0; batchNumber(0, 2) = 98;");
        Runs.play("promise 19", TWO, "addLot(1, 5, 5, 5, 50, 20, 2) = 2; fromJar(0, 3) = 3; mix() = 0; "
                + "fromJar(1, 3) = 3; ",
                "mix() = 1; fromBatch(0, 1) = 1; fromBatch(1, 1) = 2; mix() = 2; fromBatch(2, 1) = 1; mix() = 3; ",
                "hasLot(0, 0) = true; hasLot(0, 1) = false; hasLot(1, 0) = false; hasLot(1, 1) = true; "
                + "hasLot(2, 0) = true; ",
                "hasLot(3, 0) = true; hasLot(3, 1) = true; hasLot(3, 2) = false; hasLot(4, 0)" + INDEX,
                "hasLot(-1, 0)" + INDEX, "hasLot(3, 3)" + INDEX, "hasLot(3, -1)" + INDEX);
        Runs.play("promise 20", BLEND, "fromBatch(0, 8) = 8; hold(0, true) = false; throwBatch(0) = 42; "
                + "batchLeft(0) = 0; ",
                "throwBatch(0) = 0; hold(0, false) = true; fromBatch(0, 1)" + UNABLE, "test(0, 0) = true; ",
                "ship(0, 0, 0, 1)" + UNABLE, "batchNumber(0, 0) = 76; hasLot(0, 0) = true; throwBatch(1)" + INDEX,
                "throwBatch(-1)" + INDEX, "inDrum() = 8; account(0, 't') = 0; isSound() = true;");
    }

    private static void promises21To24() {
        Runs.play("promise 21", times(0, 5, "addBlend() = #; band(#, 0, false) = 0; band(#, 0, true) = 99; "
                + "band(#, 1, false) = 0; band(#, 1, true) = 99; band(#, 2, false) = 0; band(#, 2, true) = 99; "),
                "addBlend()" + STATE, "band(6, 0, true)" + INDEX);
        Runs.play("promise 22", "type('a') = 1; type('z') = 2; type('`')" + ARGUMENT, "type('{')" + ARGUMENT,
                "type('A')" + ARGUMENT, "type(' ')" + ARGUMENT, "type('\u00e9')" + ARGUMENT,
                "type('\uffff')" + ARGUMENT,
                "type('\u0000')" + ARGUMENT, times(3, 8, "type('m') = #; "), "type('m')" + STATE,
                "type('M')" + ARGUMENT);
        Runs.play("promise 23", "addBlend() = 0; addBlend() = 1; narrow(0) = false; typing mild; narrow(2)" + INDEX,
                "narrow(-1)" + INDEX, "narrow(0) = true; narrow(0) = false; band(0, 0, true) = 30; "
                + "band(0, 0, false) = 0; ",
                "band(0, 1, true) = 99; band(0, 2, false) = 0; band(1, 0, true) = 99; typing hot; "
                + "narrow(0) = false; ",
                "band(0, 0, false) = 0; type('m') = 1; typing ild; narrow(0) = true; typing fresh; "
                + "narrow(0) = true; ",
                "band(0, 1, false) = 50; band(0, 1, true) = 99; band(0, 2, false) = 0; typing red; "
                + "narrow(0) = true; ",
                "band(0, 2, false) = 60; band(0, 2, true) = 99; band(0, 0, true) = 30; typing hot; "
                + "narrow(1) = true; ",
                "band(1, 0, false) = 60; band(1, 0, true) = 99; band(1, 1, false) = 0; typing mild; "
                + "narrow(1) = false; ",
                "band(1, 0, true) = 99; typing redd; narrow(1) = false; typing re; narrow(1) = false; "
                + "typing hothothh; ",
                "narrow(1) = false; type('r') = 1; isSound() = true;");
        Runs.play("promise 24", "addBlend() = 0; typing hot; narrow(0) = true; band(0, 0, false) = 60; ",
                "band(0, 0, true) = 99; band(0, 3, true)" + ARGUMENT, "band(0, -1, true)" + ARGUMENT,
                "band(1, 3, true)" + INDEX, "band(-1, 0, false)" + INDEX);
    }

    private static void promises25And26() {
        String edges = "addLot(0, 30, 50, 60, 50, 20, 2) = 0; addLot(0, 31, 49, 59, 50, 20, 2) = 1; "
                + "addLot(0, 60, 99, 99, 50, 20, 2) = 2; addLot(0, 59, 0, 0, 50, 20, 2) = 3; "
                + times(0, 3, "openJar(#, false) = #; fromJar(#, 9) = 9; mix() = #; ")
                + times(0, 3, "addBlend() = #; ") + "typing mild; narrow(0) = true; typing hot; narrow(1) = true; "
                + "typing fresh; narrow(2) = true; typing red; narrow(3) = true; ";
        String answers = "@(0, 0) = true; @(1, 0) = false; @(2, 0) = false; @(3, 0) = false; @(0, 1) = false; "
                + "@(1, 1) = false; @(2, 1) = true; @(3, 1) = false; @(0, 2) = true; @(1, 2) = false; "
                + "@(2, 2) = true; "
                + "@(3, 2) = false; @(0, 3) = true; @(1, 3) = false; @(2, 3) = true; @(3, 3) = false; ";
        String wrong = "@(4, 0)" + INDEX + "@(0, 4)" + INDEX + "@(-1, 0)" + INDEX + "@(0, -1)" + INDEX;
        Runs.play("promise 25", edges, answers.replace("@", "isIn"), wrong.replace("@", "isIn"),
                "hold(0, true) = false; isIn(0, 0) = true; ship(2, 2, 0, 1)" + UNABLE);
        Runs.play("promise 26", edges, answers.replace("@", "test"), wrong.replace("@", "test"),
                "hold(0, true) = false; test(0, 0) = true; hold(0, false) = true; ship(0, 0, 0, 1) = 0; "
                + "ship(0, 2, 0, 1) = 0; ",
                "ship(1, 0, 0, 1)" + UNABLE);
    }

    private static void promise27() {
        Runs.play("promise 27", BLEND, "ship(0, 0, 1, 10)" + UNABLE, "test(0, 0) = true; ship(0, 0, 1, 10) = 5; ",
                "ship(0, 0, 5, 40) = 22; ship(0, 0, 1, 1)" + UNABLE, "got(1) = 10; owes(1) = 5; got(5) = 40; "
                + "owes(5) = 22;");
        Runs.play("promise 27, wrong inputs", BLEND, "test(0, 0) = true; ship(1, 0, 0, 0)" + INDEX,
                "ship(-1, 0, 0, 1)" + INDEX,
                "ship(0, 1, 0, 0)" + INDEX, "ship(0, -1, 0, 1)" + INDEX, "ship(0, 0, 6, 0)" + INDEX,
                "ship(0, 0, -1, 1)" + INDEX, "ship(0, 0, 0, 0)" + ARGUMENT, "ship(0, 0, 0, 51)" + UNABLE,
                "ship(0, 0, 0, 2147483647)" + UNABLE, "hold(1, true) = false; ship(0, 0, 0, 1)" + UNABLE,
                "ship(0, 0, 0, 0)" + ARGUMENT, "hold(1, false) = true; hold(0, true) = false; "
                + "ship(0, 0, 0, 1)" + UNABLE,
                "hold(0, false) = true; ship(0, 0, 0, 1) = 0;");
        Runs.play("promise 27, words and tests", BLEND, "addBlend() = 1; test(0, 0) = true; "
                + "ship(0, 1, 0, 1)" + UNABLE,
                "test(0, 1) = true; typing hot; narrow(0) = true; ship(0, 0, 0, 1)" + UNABLE,
                "ship(0, 1, 0, 1) = 0; ",
                "test(0, 0) = true; ship(0, 0, 0, 1) = 0; typing hot; narrow(0) = true; ship(0, 0, 0, 1)" + UNABLE,
                "test(0, 0) = true; typing mild; narrow(0) = false; ship(0, 0, 0, 1) = 0; typing hit; "
                + "narrow(0) = false; ",
                "ship(0, 0, 0, 1) = 0; typing red; narrow(0) = true; ship(0, 0, 0, 1)" + UNABLE,
                "test(0, 0) = true; ",
                "ship(0, 0, 0, 1) = 0; fromBatch(0, 5) = 5; mix() = 1; ship(1, 0, 0, 1)" + UNABLE);
        Runs.play("promise 27, not in it", BLEND, "typing mild; narrow(0) = true; test(0, 0) = false; "
                + "ship(0, 0, 0, 1)" + UNABLE);
        Runs.play("promise 27, the cost", "addLot(0, 9, 9, 9, 30, 100, 2) = 0; openJar(0, false) = 0; "
                + "fromJar(0, 10) = 10; ",
                "fromJar(0, 10) = 20; mix() = 0; addBlend() = 0; test(0, 0) = true; ship(0, 0, 0, 7) = 23; "
                + "fromBatch(0, 6) = 6; ",
                "ship(0, 0, 0, 6) = 20; mix() = 1; test(1, 0) = true; ship(1, 0, 1, 5) = 15; ship(1, 0, 1, 1) = 4; ",
                "ship(0, 0, 2, 1) = 4; owes(0) = 43; owes(1) = 19; owes(2) = 4; batchLeft(0) = 0;");
    }

    private static void promises28To31() {
        String shipped = BLEND + "test(0, 0) = true; fromJar(0, 5) = 5; mix() = 1; test(1, 0) = true; "
                + "ship(0, 0, 1, 10) = 5; ship(1, 0, 4, 2) = 0; ship(0, 0, 4, 3) = 1; ship(1, 0, 5, 3) = 2; ";
        Runs.play("promise 28", shipped, "got(0) = 0; got(1) = 10; got(4) = 5; got(5) = 3; got(6)" + INDEX,
                "got(-1)" + INDEX);
        Runs.play("promise 29", shipped, "owes(0) = 0; owes(1) = 5; owes(4) = 1; owes(5) = 2; owes(6)" + INDEX,
                "owes(-1)" + INDEX);
        Runs.play("promise 30", shipped, "addLot(0, 9, 9, 9, 10, 1, 1) = 2; gotOf(1, 0) = true; gotOf(1, 1) = true; ",
                "gotOf(4, 1) = true; gotOf(5, 0) = true; gotOf(5, 1) = false; gotOf(0, 0) = false; "
                + "gotOf(1, 2) = false; ",
                "gotOf(6, 0)" + INDEX, "gotOf(-1, 0)" + INDEX, "gotOf(0, 3)" + INDEX, "gotOf(0, -1)" + INDEX);
        Runs.play("promise 31", shipped, "addLot(0, 9, 9, 9, 10, 1, 1) = 2; recall(0) = 3; recall(1) = 2; "
                + "recall(2) = 0; ",
                "hold(0, true) = false; recall(0) = 3; ship(0, 0, 0, 1)" + UNABLE, "recall(3)" + INDEX,
                "recall(-1)" + INDEX);
    }

    private static void promise32() {
        Runs.play("promise 32", "addOffer(-1, 10, 1, 1)" + ARGUMENT, "addOffer(6, 10, 1, 1)" + ARGUMENT,
                "addOffer(0, 9, 1, 1)" + ARGUMENT, "addOffer(0, 501, 1, 1)" + ARGUMENT,
                "addOffer(0, 10, 0, 1)" + ARGUMENT,
                "addOffer(0, 10, 1000, 1)" + ARGUMENT, "addOffer(0, 10, 1, 0)" + ARGUMENT,
                "addOffer(0, 10, 1, 10)" + ARGUMENT,
                "addOffer(0, 10, 1, 1) = 0; addOffer(5, 500, 999, 9) = 1; cheapest(5, 2000) = 3996; "
                + "cheapest(0, 10) = 1; ",
                times(2, 5, "addOffer(0, 10, 1, 1) = #; "), "addOffer(0, 10, 1, 1)" + STATE,
                "addOffer(0, 10, 1, 10)" + ARGUMENT,
                "jarsOf(0, 10, 5) = 1; jarsOf(0, 10, 0) = 0; jarsOf(0, 10, 6)" + INDEX);
    }

    private static void promises33And34() {
        String offers = "addOffer(0, 50, 20, 3) = 0; addOffer(0, 20, 9, 9) = 1; addOffer(1, 500, 1, 1) = 2; ";
        Runs.play("promise 33", "cheapest(0, 1)" + NONE, offers, "cheapest(0, 1) = 9; cheapest(0, 20) = 9; ",
                "cheapest(0, 21) = 18; cheapest(0, 41) = 20; cheapest(0, 110) = 47; cheapest(0, 330) = 141; ",
                "cheapest(0, 331)" + NONE, "cheapest(2, 1)" + NONE, "cheapest(1, 500) = 1; cheapest(1, 501)" + NONE,
                "cheapest(-1, 1)" + ARGUMENT, "cheapest(6, 1)" + ARGUMENT, "cheapest(0, 0)" + ARGUMENT,
                "cheapest(0, -5)" + ARGUMENT, "cheapest(0, 2001)" + ARGUMENT, "cheapest(0, 2000)" + NONE);
        Runs.play("promise 34", offers, "jarsOf(0, 110, 0) = 1; jarsOf(0, 110, 1) = 3; jarsOf(0, 110, 2) = 0; ",
                "jarsOf(0, 330, 0) = 3; jarsOf(0, 330, 1) = 9; jarsOf(0, 331, 1)" + NONE, "jarsOf(0, 0, 3)" + INDEX,
                "jarsOf(0, 331, -1)" + INDEX, "jarsOf(0, 0, 0)" + ARGUMENT, "jarsOf(6, 1, 0)" + ARGUMENT,
                "jarsOf(-1, 1, 0)" + ARGUMENT, "jarsOf(0, 2001, 0)" + ARGUMENT, "jarsOf(5, 1, 0)" + NONE);
        Runs.play("promise 34, like ways", "addOffer(0, 10, 5, 4) = 0; addOffer(0, 20, 10, 4) = 1; "
                + "addOffer(0, 30, 15, 1) = 2; ",
                "addOffer(0, 20, 10, 2) = 3; cheapest(0, 70) = 35; jarsOf(0, 70, 0) = 0; jarsOf(0, 70, 1) = 0; ",
                "jarsOf(0, 70, 2) = 1; jarsOf(0, 70, 3) = 2; jarsOf(0, 80, 0) = 0; jarsOf(0, 80, 1) = 2; "
                + "jarsOf(0, 80, 2) = 0; ",
                "jarsOf(0, 80, 3) = 2; jarsOf(0, 15, 3) = 1; jarsOf(0, 15, 1) = 0; cheapest(0, 15) = 10;");
        Runs.play("promise 34, more than is needed", "addOffer(0, 10, 9, 9) = 0; addOffer(0, 500, 10, 1) = 1; ",
                "cheapest(0, 11) = 10; jarsOf(0, 11, 0) = 0; jarsOf(0, 11, 1) = 1; cheapest(0, 10) = 9; "
                + "jarsOf(0, 10, 0) = 1; ",
                "cheapest(0, 510) = 19; cheapest(0, 511) = 28; jarsOf(0, 511, 0) = 2; cheapest(0, 590) = 91;");
        Runs.play("promise 33, the largest",
                times(0, 5, "addOffer(3, 37, 999, 9) = #; "), "cheapest(3, 1998) = 53946; ",
                "jarsOf(3, 1998, 0) = 9; jarsOf(3, 1998, 5) = 9; cheapest(3, 1999)" + NONE,
                "jarsOf(3, 1961, 0) = 8;");
    }

    private static void promise35() {
        Runs.play("promise 35", "bound(0, 1)" + NONE, "addOffer(0, 50, 20, 3) = 0; addOffer(0, 20, 9, 9) = 1; ",
                "bound(0, 110) = 44.0; bound(0, 150) = 60.0; bound(0, 151) = 60.45; bound(0, 330) = 141.0; "
                + "bound(0, 331)" + NONE,
                "bound(0, 1) = 0.4; bound(1, 1)" + NONE, "bound(6, 1)" + ARGUMENT, "bound(-1, 1)" + ARGUMENT,
                "bound(0, 0)" + ARGUMENT, "bound(0, 2001)" + ARGUMENT, "bound(0, 2000)" + NONE);
        Runs.play("promise 35, order", "addOffer(0, 30, 7, 1) = 0; addOffer(2, 10, 1, 1) = 1; "
                + "addOffer(0, 70, 13, 1) = 2; ",
                "addOffer(0, 60, 14, 1) = 3; addOffer(0, 11, 3, 9) = 4; bound(0, 70) = 13.0; "
                + "bound(0, 71) = " + (13.0 + 7.0 / 30)
                + "; bound(0, 101) = " + (20.0 + 14.0 / 60) + "; bound(0, 170) = " + (34.0 + 30.0 / 11) + ";");
        Runs.play("promise 35, like ones by numbers", "addOffer(0, 49, 7, 1) = 0; addOffer(0, 70, 10, 1) = 1; ",
                "bound(0, 1) = " + 7.0 / 49 + "; bound(0, 60) = " + (7.0 + 110.0 / 70) + "; bound(0, 119) = 17.0;");
        Runs.play("promise 35, like ones as they are added", "addOffer(0, 12, 4, 1) = 0; addOffer(0, 15, 5, 1) = 1; ",
                "bound(0, 19) = " + (4.0 + 35.0 / 15) + ";");
        Runs.play("promise 35, like ones the other way", "addOffer(0, 15, 5, 1) = 0; addOffer(0, 12, 4, 1) = 1; ",
                "bound(0, 19) = " + (5.0 + 16.0 / 12) + ";");
    }

    private static void promises36And37() {
        String lots = "addLot(0, 80, 40, 20, 50, 20, 2) = 0; addLot(1, 10, 70, 90, 40, 30, 2) = 1; "
                + "addLot(2, 0, 99, 0, 30, 1, 1) = 2; addBlend() = 0; ";
        Runs.play("promise 36", lots, "mixtureCost(0) = 3; typing hot; narrow(0) = true; mixtureCost(0) = 32; ",
                "mixturePart(0, 0) = 8; mixturePart(0, 1) = 0; mixturePart(0, 2) = 2; mixtureCost(1)" + INDEX,
                "mixtureCost(-1)" + INDEX, "typing red; narrow(0) = true; mixtureCost(0)" + NONE);
        Runs.play("promise 37", lots, "mixturePart(0, 2) = 10; mixturePart(0, 0) = 0; typing red; narrow(0) = true; ",
                "mixtureCost(0) = 53; mixturePart(0, 0) = 0; mixturePart(0, 1) = 7; mixturePart(0, 2) = 3; ",
                "mixturePart(0, 3)" + INDEX, "mixturePart(0, -1)" + INDEX, "mixturePart(1, 0)" + INDEX,
                "typing hot; narrow(0) = true; mixturePart(0, 0)" + NONE, "mixturePart(0, 3)" + INDEX);
        Runs.play("promise 36, faded, on hold, closed", "addBlend() = 0; mixtureCost(0)" + NONE,
                "addLot(0, 60, 60, 60, 10, 7, 1) = 0; addLot(0, 60, 60, 60, 10, 8, 1) = 1; typing hot; "
                + "narrow(0) = true; ",
                "mixtureCost(0) = 70; hold(0, true) = false; mixtureCost(0) = 80; mixturePart(0, 0) = 0; "
                + "hold(0, false) = true; ",
                "openJar(0, false) = 0; mixtureCost(0) = 80; mixturePart(0, 1) = 10; pass(4) = 4; "
                + "mixtureCost(0)" + NONE,
                "hold(1, true) = false; mixturePart(0, 1)" + NONE);
        Runs.play("promise 37, like ones", "addLot(0, 10, 0, 0, 100, 10, 1) = 0; "
                + "addLot(0, 90, 0, 0, 100, 10, 1) = 1; ",
                "addLot(0, 90, 0, 0, 100, 10, 1) = 2; addLot(0, 90, 0, 0, 100, 10, 1) = 3; addBlend() = 0; "
                + "mixtureCost(0) = 10; ",
                "mixturePart(0, 0) = 10; typing hot; narrow(0) = true; mixtureCost(0) = 10; mixturePart(0, 0) = 3; ",
                "mixturePart(0, 1) = 7; mixturePart(0, 2) = 0; hold(1, true) = false; mixturePart(0, 2) = 7;");
        Runs.play("promise 37, cut for each lot", "addLot(0, 70, 0, 0, 30, 2, 1) = 0; "
                + "addLot(0, 70, 0, 0, 30, 2, 1) = 1; ",
                "addLot(0, 70, 0, 0, 30, 2, 1) = 2; addLot(0, 70, 0, 0, 30, 2, 1) = 3; addBlend() = 0; "
                + "mixtureCost(0) = 5; ",
                "mixturePart(0, 0) = 8; mixturePart(0, 1) = 1; mixturePart(0, 2) = 1; mixturePart(0, 3) = 0;");
    }

    private static void promise38() {
        Runs.play("promise 38", "addLot(0, 5, 5, 5, 10, 1, 1) = 0; isOdd(0) = false; "
                + "addLot(0, 4, 5, 5, 10, 1, 1) = 1; ",
                "isOdd(0) = false; isOdd(1) = false; addLot(1, 5, 5, 5, 10, 1, 1) = 2; isOdd(1) = false; ",
                "addLot(0, 5, 5, 5, 10, 1, 1) = 3; isOdd(0) = false; isOdd(1) = true; isOdd(2) = false; "
                + "isOdd(3) = false; ",
                "addLot(0, 4, 5, 6, 10, 1, 1) = 4; isOdd(1) = false; isOdd(4) = true; "
                + "addLot(0, 5, 4, 6, 10, 1, 1) = 5; ",
                "isOdd(4) = false; isOdd(5) = true; isOdd(0) = false; hold(5, true) = false; isOdd(5) = true; "
                + "pass(20) = 20; ",
                "isOdd(5) = true; isOdd(6)" + INDEX, "isOdd(-1)" + INDEX);
        Runs.play("promise 38, as they came", "addLot(0, 5, 5, 50, 10, 1, 1) = 0; "
                + "addLot(0, 5, 5, 50, 10, 1, 1) = 1; ",
                "pass(20) = 20; addLot(0, 5, 5, 50, 10, 1, 1) = 2; isOdd(2) = false; isOdd(0) = false;");
    }

    private static void promise39() {
        Runs.play("promise 39", "chance(0, 1) = 1000000; chance(1, 1) = 333333; chance(0, 20) = 1000000; "
                + "chance(1, 2) = 555555; ",
                "chance(2, 2) = 111111; chance(3, 5) = 209876; chance(1, 20) = 999699; chance(7, 20) = 520657; ",
                "chance(20, 20) = 0; chance(12, 20) = 12973; chance(2, 1)" + ARGUMENT, "chance(-1, 5)" + ARGUMENT,
                "chance(0, 0)" + ARGUMENT, "chance(0, 21)" + ARGUMENT, "chance(0, -1)" + ARGUMENT,
                "chance(2147483647, 2147483647)" + ARGUMENT);
    }

    private static void promise40() {
        Runs.play("promise 40", TWO, "addLot(1, 9, 9, 9, 10, 1, 20) = 2; account(0, 'b') = 100; "
                + "account(0, 'c') = 50; ",
                "account(0, 'o') = 50; account(0, 't') = 0; account(0, 'p') = 0; account(1, 'b') = 120; "
                + "account(1, 'c') = 80; ",
                "fromJar(0, 7) = 7; openJar(0, true) = 2; throwJar(2) = 50; account(0, 'o') = 43; "
                + "account(0, 't') = 50; ",
                "account(0, 'p') = 7; account(0, 'c') = 0; account(1, 'p') = 0; account(2, 'c') = 200; empty() = 7; ",
                "account(0, 'p') = 7; account(0, 'b') = 100; account(3, 'x')" + INDEX, "account(-1, 'b')" + INDEX,
                "account(0, 'x')" + ARGUMENT, "account(0, 'B')" + ARGUMENT, "account(0, 'a')" + ARGUMENT);
    }

    private static void promise41() {
        long sum = 7;
        for (int i = 0; i < 13; i++) {
            sum *= 31;
        }
        Runs.play("promise 41, at first", "checksum() = " + sum + "; pass(7) = 7; checksum() = " + (sum + 7) + ";");
        long[] rows = {1, 2, 20, 20, 40, 76, 71, 66, 0, 0, 10, 5, 0, 0, 0, 0, 0, 0, 0, 0, 2};
        sum = 7;
        for (long row : rows) {
            sum = 31 * sum + row;
        }
        Runs.play("promise 41", BLEND, "test(0, 0) = true; ship(0, 0, 1, 10) = 5; checksum() = " + sum + ";");
    }

    private static void promises42And43() {
        Runs.play("promise 42", "shippedShare()" + NONE, TWO, "fromJar(0, 30) = 30; shippedShare()" + NONE,
                "mix() = 0; ",
                "shippedShare() = 0.0; addBlend() = 0; test(0, 0) = true; ship(0, 0, 0, 10) = 4; shippedShare() = "
                + (double) (10f / 30f) + "; throwBatch(0) = 20; shippedShare() = " + (double) (10f / 30f)
                + "; fromJar(1, 7) = 7; mix() = 1; shippedShare() = " + (double) (10f / 37f) + "; "
                + "fromBatch(1, 7) = 7; "
                + "mix() = 2; shippedShare() = " + (double) (10f / 44f) + ";");
        Runs.play("promise 43", "meanOil()" + NONE, "addLot(0, 80, 60, 70, 50, 20, 2) = 0; meanOil() = 60.0; "
                + "pass(2) = 2; ",
                "meanOil() = 59.0; addLot(0, 70, 90, 60, 40, 30, 3) = 1; meanOil() = 74.5; "
                + "addLot(0, 70, 0, 60, 40, 30, 3) = 2; ",
                "meanOil() = " + 149.0 / 3.0 + "; hold(0, true) = false; meanOil() = " + 149.0 / 3.0 + ";");
    }

    private static void promise44() {
        Runs.play("promise 44", "isSound() = true; ", BLEND, "test(0, 0) = true; ship(0, 0, 1, 10) = 5; ",
                "addOffer(0, 30, 1, 1) = 0; addOffer(0, 10, 1, 1) = 1; addOffer(4, 500, 999, 9) = 2; "
                + "isSound() = true; ",
                "throwJar(0) = 20; pass(20) = 22; fromBatch(0, 5) = 5; empty() = 5; throwBatch(0) = 35; "
                + "typing mild; ",
                "narrow(0) = true; typing hot; narrow(0) = false; isSound() = true;");
    }
}
