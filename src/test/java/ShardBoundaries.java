/** Promises 23 to 25, and what the description says of shards. */
final class ShardBoundaries {
    private static final int ALL = Document.DESCRIPTION;
    private static final String BAD_NUMBER = "BAD_VALUE if the number of shards is out of range";
    private static final String RANGE = "shards: number of shards, 1 to 4";
    private static final int[] NO_NUMBER = {-4, -1, 0, 5, 6, 32, 33, 256, 260};

    private ShardBoundaries() {
    }

    static void test() {
        Sentence.withoutBoundary(23, "test: number of the test");
        Sentence.withoutBoundary(24, "shard: number of the shard");
        distribution();
        numbersOfShards();
        shardOf();
        shardLoad();
        bestGreatestLoad();
    }

    private static void distribution() {
        Sentence.of(ALL, "For a number of shards, the affected tests are distributed as follows: they are taken in the "
                        + "order of descending weight, those of equal weight in ascending order of their numbers")
                .holds("descending weight", States.changedTests(1, 100, 50), "shardOf(1,3) = 0; shardOf(2,3) = 1; "
                        + "shardOf(0,3) = 2")
                .holds("equal weight", States.changedTests(5, 5, 5, 5), "shardOf(0,4) = 0; shardOf(1,4) = 1; "
                        + "shardOf(2,4) = 2; shardOf(3,4) = 3")
                .holds("equal weight behind a greater one", States.changedTests(5, 5, 6), "shardOf(2,3) = 0; "
                        + "shardOf(0,3) = 1; shardOf(1,3) = 2")
                .holds("ten of equal weight", States.changedTests(1, 1, 1, 1, 1, 1, 1, 1, 1, 1), "shardOf(0,4) = 0; "
                        + "shardOf(4,4) = 0; shardOf(8,4) = 0; shardOf(9,4) = 1; shardOf(7,4) = 3; shardOf(9,3) = 0; "
                        + "shardOf(9,2) = 1; shardOf(9,1) = 0")
                .holds("only affected ones", States.changedTests(100, 50, 1), "clearChanges() = 3; edit(2) = 2; "
                        + "shardOf(2,2) = 0; edit(1) = 1; shardOf(1,2) = 0; shardOf(2,2) = 1");
        Sentence.of(ALL, "each is given to the shard with the smallest load so far, of several the one with the smallest "
                        + "number")
                .holds("of empty ones the first", States.changedTests(9), "shardOf(0,1) = 0; shardOf(0,4) = 0")
                .holds("of loaded ones the first", States.changedTests(4, 4, 4, 3), "shardOf(3,3) = 0; shardOf(3,2) = 1; "
                        + "shardOf(3,4) = 3")
                .holds("the smallest load, not the fewest tests", States.changedTests(10, 3, 3, 3), "shardOf(0,2) = 0; "
                        + "shardOf(1,2) = 1; shardOf(2,2) = 1; shardOf(3,2) = 1; shardLoad(2,1) = 9")
                .holds("of equal loads of different tests", States.changedTests(6, 3, 3, 1), "shardOf(2,2) = 1; "
                        + "shardOf(3,2) = 0; shardLoad(2,0) = 7; shardLoad(2,1) = 6")
                .holds("a load that is one less", States.changedTests(7, 3, 3, 1), "shardOf(3,2) = 1; "
                        + "shardLoad(2,0) = 7; shardLoad(2,1) = 7");
        Sentence.of(ALL, "The load of a shard is the sum of the weights of its tests")
                .holds("no tests", States.FULL, "shardLoad(1,0) = 0; shardLoad(4,3) = 0")
                .holds("one and two", States.changedTests(7, 2, 3), "shardLoad(2,0) = 7; shardLoad(2,1) = 5; "
                        + "shardLoad(3,2) = 2; shardLoad(4,3) = 0")
                .holds("all ten, 1000", States.changedTests(100, 100, 100, 100, 100, 100, 100, 100, 100, 100),
                        "shardLoad(1,0) = 1000; shardLoad(4,0) = 300; shardLoad(4,1) = 300; shardLoad(4,2) = 200; "
                        + "shardLoad(4,3) = 200");
    }

    private static void numbersOfShards() {
        String five = States.changedTests(8, 7, 6, 5, 4);
        Sentence.of(23, RANGE).leaves("1 to 4", five, "shardOf(4,1) = 0; shardOf(4,2) = 0; shardOf(4,3) = 1; "
                        + "shardOf(4,4) = 3")
                .refuses("0 and 5", five, "shardOf(4,0) = BAD_VALUE; shardOf(4,5) = BAD_VALUE");
        Sentence.of(24, RANGE).leaves("1 to 4", five, "shardLoad(1,0) = 30; shardLoad(2,0) = 17; shardLoad(3,0) = 8; "
                        + "shardLoad(4,3) = 9")
                .refuses("0 and 5", five, "shardLoad(0,0) = BAD_VALUE; shardLoad(5,0) = BAD_VALUE");
        Sentence.of(25, RANGE).leaves("1 to 4", five, "bestGreatestLoad(1) = 30; bestGreatestLoad(2) = 15; "
                        + "bestGreatestLoad(3) = 11; bestGreatestLoad(4) = 9")
                .refuses("0 and 5", five, "bestGreatestLoad(0) = BAD_VALUE; bestGreatestLoad(5) = BAD_VALUE");
        Sentence.of(23, BAD_NUMBER)
                .refuses("one below, one above, and far off", States.SMALL, States.each("shardOf(4,?) = BAD_VALUE",
                        NO_NUMBER))
                .refuses("of no affected test", States.SMALL, "shardOf(0,0) = BAD_VALUE; shardOf(0,5) = BAD_VALUE");
        Sentence.of(25, BAD_NUMBER)
                .refuses("one below, one above, and far off", States.SMALL,
                        States.each("bestGreatestLoad(?) = BAD_VALUE", NO_NUMBER))
                .refuses("without tests", States.NEW, States.each("bestGreatestLoad(?) = BAD_VALUE", NO_NUMBER));
        Sentence.of(24, "BAD_VALUE if the number of shards is out of range, or the shard is not 0 to shards - 1")
                .refuses("the number, one below, one above, and far off", States.SMALL,
                        States.each("shardLoad(?,0) = BAD_VALUE", NO_NUMBER))
                .refuses("the shard of one", States.SMALL, States.each("shardLoad(1,?) = BAD_VALUE", -1, 1, 2, 32, 256))
                .refuses("the shard of two", States.SMALL, States.each("shardLoad(2,?) = BAD_VALUE", -1, 2, 3))
                .refuses("the shard of three", States.SMALL, States.each("shardLoad(3,?) = BAD_VALUE", -1, 3, 4))
                .refuses("the shard of four", States.SMALL, States.each("shardLoad(4,?) = BAD_VALUE", -1, 4, 5, 32))
                .refuses("both", States.SMALL, "shardLoad(0,-1) = BAD_VALUE; shardLoad(5,4) = BAD_VALUE; "
                        + "shardLoad(5,5) = BAD_VALUE; shardLoad(MIN,MIN) = BAD_VALUE; shardLoad(MAX,MAX) = BAD_VALUE")
                .refuses("without tests", States.NEW, "shardLoad(0,0) = BAD_VALUE; shardLoad(1,1) = BAD_VALUE; "
                        + "shardLoad(4,4) = BAD_VALUE; shardLoad(4,-1) = BAD_VALUE")
                .leaves("the first and the last shard", States.SMALL, "shardLoad(1,0) = 20; shardLoad(2,0) = 13; "
                        + "shardLoad(2,1) = 7; shardLoad(3,0) = 13; shardLoad(3,2) = 0; shardLoad(4,0) = 13; "
                        + "shardLoad(4,3) = 0");
    }

    private static void shardOf() {
        Sentence.of(23, "Returns the shard to which a test is given").leaves("asking changes nothing", States.SMALL,
                "shardOf(4,2) = 0; shardOf(2,2) = 1");
        Sentence.of(23, "Returns the shard, from 0")
                .holds("0 to 3", States.changedTests(4, 3, 2, 1), "shardOf(0,4) = 0; shardOf(1,4) = 1; shardOf(2,4) = 2; "
                        + "shardOf(3,4) = 3")
                .holds("0 alone", States.changedTests(4, 3, 2, 1), "shardOf(0,1) = 0; shardOf(3,1) = 0")
                .holds("the tests 10 and 19", States.twentyTargets(), States.fortyFiles(), "shardOf(19,4) = 0; "
                        + "shardOf(18,4) = 1; shardOf(10,1) = 0");
        Sentence.of(23, "NO_SUCH_TARGET if the target does not exist")
                .refuses("one below, one above, and far off", States.SMALL, States.each("shardOf(?,2) = NO_SUCH_TARGET",
                        -1, 5, 19, 20, 32, 34, 36, -32, 1073741824))
                .refuses("there is none", States.NEW, "shardOf(0,1) = NO_SUCH_TARGET; shardOf(0,4) = NO_SUCH_TARGET")
                .refuses("behind the twentieth", States.FULL, "shardOf(20,1) = NO_SUCH_TARGET; "
                        + "shardOf(-1,1) = NO_SUCH_TARGET")
                .holds("the first and the last exist", States.FULL, "shardOf(0,1) = NONE; shardOf(19,1) = NONE; "
                        + "edit(19) = 19; shardOf(19,1) = 0");
        Sentence.of(23, "NONE if the target is not an affected test")
                .leaves("rebuilt, but a library or a generator", States.SMALL, "shardOf(0,1) = NONE; "
                        + "shardOf(1,1) = NONE; shardOf(3,4) = NONE")
                .leaves("a test that is not affected", States.SMALL + "clearChanges() = 1;", "shardOf(2,1) = NONE; "
                        + "shardOf(4,4) = NONE")
                .leaves("while another is", States.changedTests(5, 6) + "clearChanges() = 2; edit(1) = 1;",
                        "shardOf(0,1) = NONE; shardOf(1,1) = 0")
                .holds("affected without being rebuilt", States.SMALL, "changed(1) = 27; shardOf(2,1) = 0");
    }

    private static void shardLoad() {
        Sentence.of(24, "Returns the load of a shard").leaves("asking changes nothing", States.SMALL,
                "shardLoad(2,0) = 13; shardLoad(2,1) = 7");
        Sentence.of(24, "Returns the load")
                .leaves("0 without tests", States.NEW, "shardLoad(1,0) = 0; shardLoad(4,0) = 0; shardLoad(4,3) = 0")
                .leaves("0 without affected tests", States.FULL, "shardLoad(1,0) = 0; shardLoad(4,3) = 0")
                .holds("0 of a shard too many", States.changedTests(1, 100, 50), "shardLoad(4,0) = 100; "
                        + "shardLoad(4,1) = 50; shardLoad(4,2) = 1; shardLoad(4,3) = 0")
                .holds("all on one", States.changedTests(1, 2, 4, 8, 16, 32, 64, 100, 99, 98), "shardLoad(1,0) = 424")
                .holds("the most there is", States.changedTests(100, 100, 100, 100, 100, 100, 100, 100, 100, 100),
                        "shardLoad(1,0) = 1000; shardLoad(2,1) = 500");
    }

    private static void bestGreatestLoad() {
        Sentence.of(25, "Returns the smallest possible greatest load of a shard, over all distributions of the affected "
                        + "tests to shards")
                .leaves("asking changes nothing", States.SMALL, "bestGreatestLoad(1) = 20; bestGreatestLoad(2) = 13; "
                        + "bestGreatestLoad(4) = 13")
                .holds("below the load of the distribution", States.changedTests(3, 3, 2, 2, 2), "shardLoad(2,0) = 7; "
                        + "bestGreatestLoad(2) = 6")
                .holds("on three", States.changedTests(5, 5, 4, 4, 3, 3, 3), "shardLoad(3,0) = 11; bestGreatestLoad(3) = 9")
                .holds("on four", States.changedTests(7, 7, 6, 6, 5, 5, 4, 4, 4), "shardLoad(4,0) = 15; "
                        + "bestGreatestLoad(4) = 12")
                .holds("the heaviest alone is the most", States.changedTests(100, 50, 49), "bestGreatestLoad(2) = 100; "
                        + "bestGreatestLoad(3) = 100; bestGreatestLoad(4) = 100")
                .holds("more than an even share", States.changedTests(5, 5, 5), "bestGreatestLoad(2) = 10; "
                        + "bestGreatestLoad(3) = 5")
                .holds("one more than half", States.changedTests(50, 50, 1), "bestGreatestLoad(2) = 51")
                .holds("only the affected ones", States.changedTests(100, 7, 5), "clearChanges() = 3; edit(1) = 1; "
                        + "edit(2) = 2; bestGreatestLoad(1) = 12; bestGreatestLoad(2) = 7");
        Sentence.of(25, "Returns the load")
                .leaves("0 without tests", States.NEW, "bestGreatestLoad(1) = 0; bestGreatestLoad(4) = 0")
                .leaves("0 without affected tests", States.FULL, "bestGreatestLoad(1) = 0; bestGreatestLoad(4) = 0")
                .holds("one test of weight 1", States.changedTests(1), "bestGreatestLoad(1) = 1; bestGreatestLoad(4) = 1")
                .holds("ten of 100", States.changedTests(100, 100, 100, 100, 100, 100, 100, 100, 100, 100),
                        "bestGreatestLoad(1) = 1000; bestGreatestLoad(2) = 500; bestGreatestLoad(3) = 400; "
                        + "bestGreatestLoad(4) = 300");
    }
}
