/** Promises 23 to 25: the affected tests on shards. */
public final class ShardsTest {
    public static void main(String[] args) {
        errors();
        heaviestFirst();
        onlyAffectedTests();
        oneToFourShards();
        fewTests();
        bestIsBelowTheGivenOne();
        tenTests();
        Script.end();
    }

    /** A run with tests of these weights, number 0 first, all of them directly changed. */
    private static ChangeImpact changedTests(int... weights) {
        ChangeImpact x = new ChangeImpact();
        for (int t = 0; t < weights.length; t++) {
            Script.on(x, "shards", "addTarget(TEST," + weights[t] + ") = " + t, "addFile(" + t + ",false," + t + ") = " + t);
        }
        return x;
    }

    private static void errors() {
        Script.run("23 to 25: no targets", """
                shardOf(0,1) = NO_SUCH_TARGET
                shardOf(0,0) = NO_SUCH_TARGET        # before BAD_VALUE
                shardLoad(1,0) = 0
                shardLoad(4,3) = 0
                bestGreatestLoad(4) = 0
                """);
        Script.on(changedTests(5), "23 to 25: errors", """
                addTarget(LIBRARY,5) = 1
                addFile(1,false,1) = 1
                shardOf(0,1) = 0
                shardOf(0,4) = 0
                shardOf(2,1) = NO_SUCH_TARGET
                shardOf(-1,1) = NO_SUCH_TARGET
                shardOf(MIN,MIN) = NO_SUCH_TARGET
                shardOf(MAX,1) = NO_SUCH_TARGET
                shardOf(0,0) = BAD_VALUE
                shardOf(0,5) = BAD_VALUE
                shardOf(0,-1) = BAD_VALUE
                shardOf(0,MAX) = BAD_VALUE
                shardOf(1,0) = BAD_VALUE             # before NONE
                shardOf(1,5) = BAD_VALUE
                shardOf(1,1) = NONE                  # rebuilt, but not a test
                shardLoad(0,0) = BAD_VALUE
                shardLoad(5,0) = BAD_VALUE
                shardLoad(5,4) = BAD_VALUE
                shardLoad(-1,-1) = BAD_VALUE
                shardLoad(MIN,0) = BAD_VALUE
                shardLoad(MAX,0) = BAD_VALUE
                shardLoad(1,1) = BAD_VALUE
                shardLoad(1,-1) = BAD_VALUE
                shardLoad(4,4) = BAD_VALUE
                shardLoad(2,MIN) = BAD_VALUE
                shardLoad(2,MAX) = BAD_VALUE
                shardLoad(1,0) = 5
                shardLoad(4,0) = 5
                shardLoad(4,3) = 0
                bestGreatestLoad(0) = BAD_VALUE
                bestGreatestLoad(5) = BAD_VALUE
                bestGreatestLoad(-1) = BAD_VALUE
                bestGreatestLoad(MIN) = BAD_VALUE
                bestGreatestLoad(MAX) = BAD_VALUE
                bestGreatestLoad(1) = 5
                bestGreatestLoad(4) = 5
                clearChanges() = 2
                shardOf(0,1) = NONE
                shardLoad(1,0) = 0
                bestGreatestLoad(1) = 0
                """);
    }

    private static void heaviestFirst() {
        Script.on(changedTests(2, 9, 4, 9, 4), "23 and 24: the order", """
                shardOf(1,2) = 0                     # 9, then the other 9
                shardOf(3,2) = 1
                shardOf(2,2) = 0                     # 4 of number 2 before 4 of number 4
                shardOf(4,2) = 1
                shardOf(0,2) = 0                     # of equal loads the first shard
                shardLoad(2,0) = 15
                shardLoad(2,1) = 13
                shardOf(1,3) = 0
                shardOf(3,3) = 1
                shardOf(2,3) = 2
                shardOf(4,3) = 2
                shardOf(0,3) = 2                     # 8 is less than 9
                shardLoad(3,0) = 9
                shardLoad(3,1) = 9
                shardLoad(3,2) = 10
                """);
    }

    private static void onlyAffectedTests() {
        Script.on(changedTests(10, 20, 30), "23 to 25: only affected tests", """
                addTarget(LIBRARY,99) = 3
                addDependency(1,3,RUN) = 1
                clearChanges() = 3
                edit(2) = 2
                shardOf(0,2) = NONE
                shardOf(1,2) = NONE
                shardOf(2,2) = 0
                shardLoad(2,0) = 30
                shardLoad(2,1) = 0
                bestGreatestLoad(2) = 30
                addFile(3,false,3) = 3
                shardOf(1,2) = 1                     # affected, though not rebuilt
                shardLoad(2,1) = 20
                bestGreatestLoad(1) = 50
                shardOf(3,2) = NONE
                edit(0) = 0
                shardOf(0,2) = 1
                bestGreatestLoad(2) = 30
                """);
    }

    private static void oneToFourShards() {
        Script.on(changedTests(8, 7, 6, 5, 4), "23 to 25: numbers of shards", """
                shardOf(0,1) = 0
                shardOf(4,1) = 0
                shardLoad(1,0) = 30
                bestGreatestLoad(1) = 30
                shardLoad(2,0) = 17                  # 8 5 4
                shardLoad(2,1) = 13
                bestGreatestLoad(2) = 15             # 8 7 and 6 5 4
                shardLoad(3,0) = 8
                shardLoad(3,1) = 11                  # 7 4
                shardLoad(3,2) = 11                  # 6 5
                shardOf(3,3) = 2
                shardOf(4,3) = 1
                bestGreatestLoad(3) = 11
                shardOf(3,4) = 3
                shardOf(4,4) = 3
                shardLoad(4,3) = 9
                bestGreatestLoad(4) = 9
                """);
    }

    private static void fewTests() {
        Script.on(changedTests(100, 1), "23 to 25: fewer tests than shards", """
                shardOf(0,4) = 0
                shardOf(1,4) = 1
                shardLoad(4,1) = 1
                shardLoad(4,2) = 0
                bestGreatestLoad(4) = 100
                bestGreatestLoad(2) = 100
                bestGreatestLoad(1) = 101
                """);
    }

    private static void bestIsBelowTheGivenOne() {
        Script.on(changedTests(3, 3, 2, 2, 2), "25 two shards", "bestGreatestLoad(2) = 6; shardLoad(2,0) = 7");
        Script.on(changedTests(5, 5, 4, 4, 3, 3, 3), "25 three shards",
                "bestGreatestLoad(3) = 9; shardLoad(3,0) = 11");
        Script.on(changedTests(7, 7, 6, 6, 5, 5, 4, 4, 4), "25 four shards",
                "bestGreatestLoad(4) = 12; shardLoad(4,0) = 15");
        Script.on(changedTests(4, 5, 6, 7, 8), "25 in ascending order", "bestGreatestLoad(2) = 15");
    }

    private static void tenTests() {
        ChangeImpact x = changedTests(100, 100, 100, 100, 100, 100, 100, 100, 100, 100);
        Script.on(x, "25 ten", "bestGreatestLoad(1) = 1000; bestGreatestLoad(2) = 500; bestGreatestLoad(3) = 400; "
                + "bestGreatestLoad(4) = 300; shardOf(9,4) = 1; shardLoad(4,1) = 300; shardLoad(4,2) = 200");
        Script.on(changedTests(64, 32, 16, 8, 4, 2, 1, 1, 1, 1), "25 ten", "bestGreatestLoad(1) = 130; "
                + "bestGreatestLoad(2) = 65; bestGreatestLoad(3) = 64; bestGreatestLoad(4) = 64");
    }
}
