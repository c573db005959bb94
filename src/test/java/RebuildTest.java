/** Promises 21 and 22: the rebuild order and the rebuild time. */
public final class RebuildTest {
    public static void main(String[] args) {
        nothingIsRebuilt();
        smallestReadyFirst();
        whichDependenciesWait();
        onlyRebuiltTargetsAreWaitedFor();
        allTwenty();
        timeOfTheLongestWay();
        Script.end();
    }

    private static void nothingIsRebuilt() {
        Script.run("21 and 22: nothing", """
                rebuildOrder(-1) = 0
                rebuildOrder(0) = NONE
                rebuildTime() = 0
                addTarget(LIBRARY,9) = 0
                rebuildOrder(-1) = 0
                rebuildOrder(0) = NONE
                rebuildOrder(-2) = NONE
                rebuildTime() = 0
                """);
    }

    private static void smallestReadyFirst() {
        Script.run("21 rebuildOrder", """
                addTarget(LIBRARY,1) = 0
                addTarget(LIBRARY,2) = 1
                addTarget(LIBRARY,4) = 2
                addTarget(LIBRARY,8) = 3
                addTarget(LIBRARY,16) = 4
                addDependency(0,3,INTERFACE) = 1     # 0 waits for 3, 1 for 0
                addDependency(1,0,BODY) = 2
                addFile(2,false,0) = 0
                addFile(3,true,1) = 1
                addFile(4,false,2) = 2
                rebuildOrder(-1) = 5
                rebuildOrder(0) = 2
                rebuildOrder(1) = 3
                rebuildOrder(2) = 0                  # ready now, before 4
                rebuildOrder(3) = 1
                rebuildOrder(4) = 4
                rebuildOrder(5) = NONE
                rebuildOrder(-2) = NONE
                rebuildOrder(MIN) = NONE
                rebuildOrder(MAX) = NONE
                rebuildTime() = 16                   # 8 + 1 + 2 is less
                clearChanges() = 3
                rebuildOrder(-1) = 0
                """);
    }

    private static void whichDependenciesWait() {
        int[] seconds = {1, 1, 1, 0};
        int[] times = {15, 15, 15, 10};
        for (int kind = 0; kind < 4; kind++) {
            int second = seconds[kind];
            Script.run("21 and 22: kind " + kind, "addTarget(TEST,5) = 0; addTarget(GENERATOR,10) = 1",
                    "addDependency(0,1," + kind + ") = 1", "addFile(0,false,0) = 0; addFile(1,false,1) = 1",
                    "rebuildOrder(-1) = 2", "rebuildOrder(0) = " + second, "rebuildOrder(1) = " + (1 - second),
                    "rebuildTime() = " + times[kind]);
        }
    }

    private static void onlyRebuiltTargetsAreWaitedFor() {
        Script.run("21 and 22: not through a target that is not rebuilt", """
                addTarget(LIBRARY,5) = 0
                addTarget(LIBRARY,50) = 1
                addTarget(LIBRARY,7) = 2
                addDependency(0,1,BODY) = 1
                addDependency(1,2,BODY) = 2
                addFile(0,false,0) = 0
                addFile(2,false,1) = 1
                changed(BODY_PART) = 5
                rebuildOrder(-1) = 2
                rebuildOrder(0) = 0                  # 0 does not wait for 2
                rebuildOrder(1) = 2
                rebuildOrder(2) = NONE
                rebuildTime() = 7
                addFile(1,false,2) = 2
                rebuildOrder(0) = 2
                rebuildOrder(1) = 1
                rebuildOrder(2) = 0
                rebuildTime() = 62                   # although no change goes that way
                """);
    }

    private static void allTwenty() {
        ChangeImpact x = new ChangeImpact();
        Script.on(x, "21 and 22: twenty", "addTarget(LIBRARY,100) = 0");
        for (int t = 1; t < 20; t++) {
            Script.on(x, "21 and 22: twenty", "addTarget(LIBRARY,100) = " + t,
                    "addDependency(" + (t - 1) + "," + t + ",INTERFACE) = " + t);
        }
        Script.on(x, "21 and 22: twenty", "addFile(19,true,0) = 0; rebuildOrder(-1) = 20; rebuildTime() = 2000");
        for (int i = 0; i < 20; i++) {
            Script.on(x, "21 and 22: twenty", "rebuildOrder(" + i + ") = " + (19 - i));
        }
        Script.on(x, "21 and 22: twenty", "rebuildOrder(20) = NONE");
    }

    private static void timeOfTheLongestWay() {
        Script.run("22 rebuildTime", """
                addTarget(GENERATOR,3) = 0
                addTarget(LIBRARY,20) = 1
                addTarget(LIBRARY,4) = 2
                addTarget(LIBRARY,5) = 3
                addTarget(TEST,6) = 4
                addDependency(1,0,INTERFACE) = 1
                addDependency(2,0,GENERATED) = 2
                addDependency(3,1,BODY) = 3
                addDependency(3,2,INTERFACE) = 4
                addDependency(4,3,RUN) = 5
                addFile(0,true,0) = 0
                changed(BODY_PART) = 15
                rebuildTime() = 28                   # 3 + 20 + 5; the test only runs
                removeDependency(3,1) = BODY
                rebuildTime() = 23                   # 3 + 20
                addFile(4,false,1) = 1
                rebuildTime() = 23
                removeDependency(4,3) = RUN
                addDependency(4,3,BODY) = 4
                rebuildTime() = 23                   # 3 + 4 + 5 + 6 is 18
                removeDependency(1,0) = INTERFACE
                rebuildTime() = 18
                clearChanges() = 2
                rebuildTime() = 0
                """);
    }
}
