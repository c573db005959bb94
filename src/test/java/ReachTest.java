/** Promises 14 to 20: the change set, reach, chains and impact. */
public final class ReachTest {
    public static void main(String[] args) {
        clearChanges();
        directlyChanged();
        rulesOfReach();
        reachGoesOn();
        affectedTests();
        chain();
        chainTakesTheShortest();
        chainTakesTheSmallest();
        chainToAndThroughThePairZero();
        longestChain();
        impact();
        mostCritical();
        Script.end();
    }

    private static void clearChanges() {
        Script.run("14 clearChanges", """
                clearChanges() = 0
                addTarget(LIBRARY,1) = 0
                addTarget(LIBRARY,1) = 1
                addDependency(1,0,INTERFACE) = 1
                addFile(0,true,0) = 0
                addFile(0,true,1) = 1
                clearChanges() = 1                   # a pair counts once, a reached pair not at all
                directlyChanged(INTERFACE_PART) = 0
                changed(INTERFACE_PART) = 0
                changed(BODY_PART) = 0
                rebuildTime() = 0
                clearChanges() = 0
                addFile(0,false,2) = 2
                edit(0) = 0
                addFile(1,false,3) = 3
                clearChanges() = 3
                nameOf(3) = 3                        # the files stay
                removeDependency(1,0) = INTERFACE    # and the dependencies
                """);
        ChangeImpact x = new ChangeImpact();
        for (int t = 0; t < 20; t++) {
            Script.on(x, "14 all pairs", "addTarget(LIBRARY,1) = " + t,
                    "addFile(" + t + ",true," + 2 * t + ") = " + 2 * t,
                    "addFile(" + t + ",false," + (2 * t + 1) + ") = " + (2 * t + 1));
        }
        Script.on(x, "14 all pairs", "directlyChanged(0) = 1048575; directlyChanged(1) = 1048575; "
                + "changed(0) = 1048575; changed(1) = 1048575; clearChanges() = 40; clearChanges() = 0");
    }

    private static void directlyChanged() {
        Script.run("15 directlyChanged", """
                addTarget(LIBRARY,1) = 0
                addTarget(LIBRARY,1) = 1
                addDependency(1,0,INTERFACE) = 1
                addFile(0,true,0) = 0
                directlyChanged(INTERFACE_PART) = 1  # what is reached is not directly changed
                directlyChanged(BODY_PART) = 0
                directlyChanged(2) = BAD_VALUE
                directlyChanged(-1) = BAD_VALUE
                directlyChanged(MIN) = BAD_VALUE
                directlyChanged(MAX) = BAD_VALUE
                addFile(1,false,1) = 1
                directlyChanged(INTERFACE_PART) = 1
                directlyChanged(BODY_PART) = 2
                """);
    }

    /** Each kind of dependency with each part changed, on two targets. */
    private static void rulesOfReach() {
        String[] kinds = {"INTERFACE", "BODY", "GENERATED", "RUN"};
        int[] interfacesByHeader = {3, 1, 3, 1};
        int[] bodiesByHeader = {3, 3, 3, 1};
        int[] interfacesBySource = {0, 0, 2, 0};
        int[] bodiesBySource = {1, 1, 3, 1};
        for (int kind = 0; kind < 4; kind++) {
            String graph = "addTarget(GENERATOR,1) = 0; addTarget(TEST,1) = 1; addDependency(1,0," + kinds[kind] + ") = 1";
            Script.run("16 " + kinds[kind] + ", header", graph, "addFile(0,true,0) = 0",
                    "changed(INTERFACE_PART) = " + interfacesByHeader[kind],
                    "changed(BODY_PART) = " + bodiesByHeader[kind]);
            Script.run("16 " + kinds[kind] + ", source", graph, "addFile(0,false,0) = 0",
                    "changed(INTERFACE_PART) = " + interfacesBySource[kind],
                    "changed(BODY_PART) = " + bodiesBySource[kind]);
            Script.run("16 " + kinds[kind] + ", not backwards", graph, "addFile(1,true,0) = 0",
                    "changed(INTERFACE_PART) = 2; changed(BODY_PART) = 2");
        }
    }

    private static void reachGoesOn() {
        Script.run("16 changed", """
                changed(2) = BAD_VALUE
                changed(-1) = BAD_VALUE
                changed(MIN) = BAD_VALUE
                changed(MAX) = BAD_VALUE
                addTarget(LIBRARY,1) = 0
                addTarget(GENERATOR,1) = 1
                addTarget(LIBRARY,1) = 2
                addTarget(LIBRARY,1) = 3
                addTarget(LIBRARY,1) = 4
                addDependency(1,0,BODY) = 1          # the body of the generator uses 0
                addDependency(2,1,GENERATED) = 2
                addDependency(3,2,BODY) = 3
                addDependency(4,3,INTERFACE) = 4     # 3 changes in its body only, so 4 not at all
                addFile(0,true,0) = 0
                changed(INTERFACE_PART) = 5
                changed(BODY_PART) = 15
                clearChanges() = 1
                addFile(0,false,1) = 1
                changed(INTERFACE_PART) = 0
                changed(BODY_PART) = 1
                addFile(3,true,2) = 2
                changed(INTERFACE_PART) = 24
                changed(BODY_PART) = 25
                removeDependency(4,3) = INTERFACE    # the answer goes by the dependencies of now
                changed(INTERFACE_PART) = 8
                changed(BODY_PART) = 9
                """);
        ChangeImpact x = new ChangeImpact();
        Script.on(x, "16 the last reaches the first", "addTarget(LIBRARY,1) = 0");
        for (int t = 1; t < 20; t++) {
            Script.on(x, "16 the last reaches the first", "addTarget(LIBRARY,1) = " + t,
                    "addDependency(" + (t - 1) + "," + t + ",INTERFACE) = " + t);
        }
        Script.on(x, "16 the last reaches the first", "addFile(19,true,0) = 0; changed(0) = 1048575; changed(1) = 1048575");
    }

    private static void affectedTests() {
        Script.run("17 affectedTests", """
                affectedTests() = 0
                addTarget(LIBRARY,1) = 0
                addTarget(LIBRARY,1) = 1
                addTarget(GENERATOR,1) = 2
                addTarget(TEST,1) = 3
                addTarget(TEST,1) = 4
                addTarget(TEST,1) = 5
                addTarget(TEST,1) = 6
                addDependency(1,0,BODY) = 1
                addDependency(3,1,INTERFACE) = 2
                addDependency(4,1,RUN) = 3
                addDependency(5,2,GENERATED) = 4
                addDependency(2,0,BODY) = 5
                affectedTests() = 0
                addFile(0,false,0) = 0
                changed(BODY_PART) = 1
                affectedTests() = 24                 # by BODY behind INTERFACE or RUN, but not by GENERATED
                clearChanges() = 1
                addFile(2,false,1) = 1
                changed(BODY_PART) = 36
                affectedTests() = 32                 # 5 is rebuilt itself
                clearChanges() = 1
                addFile(6,false,2) = 2
                affectedTests() = 64                 # also none
                addDependency(6,0,RUN) = 6
                removeDependency(4,1) = RUN
                edit(0) = 0
                affectedTests() = 72
                clearChanges() = 2
                edit(1) = 2
                removeDependency(5,2) = GENERATED
                affectedTests() = 0                  # a rebuilt target that is no test
                """);
        Script.run("17 not beyond a generated file", """
                addTarget(GENERATOR,1) = 0
                addTarget(LIBRARY,1) = 1
                addTarget(LIBRARY,1) = 2
                addTarget(TEST,1) = 3
                addDependency(1,0,BODY) = 1
                addDependency(2,1,BODY) = 2
                addDependency(3,2,RUN) = 3
                addFile(0,false,0) = 0
                affectedTests() = 8
                removeDependency(1,0) = BODY
                affectedTests() = 0
                addDependency(1,0,GENERATED) = 3
                changed(BODY_PART) = 7
                affectedTests() = 8                  # as 1 and 2 are rebuilt
                """);
    }

    private static void chain() {
        Script.run("18 chain", """
                chain(0,0,0) = NO_SUCH_TARGET
                addTarget(GENERATOR,1) = 0
                addTarget(LIBRARY,1) = 1
                addDependency(1,0,GENERATED) = 1
                chain(0,0,-1) = NONE                 # not changed: not even a number of pairs
                chain(0,0,0) = NONE
                addFile(0,false,0) = 0
                chain(0,1,-1) = 1
                chain(0,1,0) = 1
                chain(0,1,1) = NONE
                chain(0,0,-1) = NONE
                chain(1,0,-1) = 2
                chain(1,0,0) = 1
                chain(1,0,1) = 2
                chain(1,0,2) = NONE
                chain(1,1,-1) = 3
                chain(1,1,0) = 1
                chain(1,1,1) = 2
                chain(1,1,2) = 3
                chain(1,1,3) = NONE
                chain(1,1,40) = NONE
                chain(1,1,-2) = NONE
                chain(1,1,MIN) = NONE
                chain(1,1,MAX) = NONE
                chain(2,2,0) = NO_SUCH_TARGET        # before BAD_VALUE
                chain(-1,0,0) = NO_SUCH_TARGET
                chain(MIN,0,0) = NO_SUCH_TARGET
                chain(MAX,0,0) = NO_SUCH_TARGET
                chain(0,2,-1) = BAD_VALUE
                chain(0,-1,99) = BAD_VALUE           # before NONE
                chain(0,MIN,0) = BAD_VALUE
                clearChanges() = 1
                chain(1,1,-1) = NONE
                """);
    }

    private static void chainTakesTheShortest() {
        Script.run("18 the shortest", """
                addTarget(LIBRARY,1) = 0
                addTarget(LIBRARY,1) = 1
                addTarget(LIBRARY,1) = 2
                addTarget(LIBRARY,1) = 3
                addDependency(1,0,INTERFACE) = 1
                addDependency(2,1,INTERFACE) = 2
                addDependency(3,2,BODY) = 3
                addFile(0,true,0) = 0
                chain(3,1,-1) = 4
                chain(3,1,0) = 0
                chain(3,1,1) = 2
                chain(3,1,2) = 4
                chain(3,1,3) = 7
                addFile(2,true,1) = 1                # begins nearer, with a greater number
                chain(3,1,-1) = 2
                chain(3,1,0) = 4
                chain(3,1,1) = 7
                addDependency(3,0,INTERFACE) = 4     # as short by a target, longer by a pair
                chain(3,1,-1) = 2
                chain(3,1,0) = 4
                chain(3,0,-1) = 2
                chain(3,0,0) = 0
                chain(3,0,1) = 6
                addFile(3,false,2) = 2               # directly changed: itself alone
                chain(3,1,-1) = 1
                chain(3,1,0) = 7
                chain(3,1,1) = NONE
                chain(3,0,-1) = 2
                """);
    }

    private static void chainTakesTheSmallest() {
        Script.run("18 the smallest beginning", """
                addTarget(LIBRARY,1) = 0
                addTarget(LIBRARY,1) = 1
                addTarget(LIBRARY,1) = 2
                addDependency(2,0,INTERFACE) = 1
                addDependency(2,1,BODY) = 2
                addFile(1,true,0) = 0
                chain(2,1,0) = 2
                addFile(0,true,1) = 1
                chain(2,1,-1) = 2
                chain(2,1,0) = 2                     # (0,0) is one step further
                addFile(2,true,2) = 2
                chain(2,1,0) = 2                     # of 2 5 and 4 5
                """);
        Script.run("18 the beginning counts first", """
                addTarget(LIBRARY,1) = 0
                addTarget(LIBRARY,1) = 1
                addTarget(LIBRARY,1) = 2
                addTarget(LIBRARY,1) = 3
                addTarget(LIBRARY,1) = 4
                addDependency(3,0,INTERFACE) = 1     # 0 6 8 and 2 4 8: the first begins smaller
                addDependency(2,1,INTERFACE) = 2
                addDependency(4,2,INTERFACE) = 3
                addDependency(4,3,INTERFACE) = 4
                addFile(0,true,0) = 0
                addFile(1,true,1) = 1
                chain(4,0,-1) = 3
                chain(4,0,0) = 0
                chain(4,0,1) = 6
                chain(4,0,2) = 8
                addDependency(2,0,INTERFACE) = 5     # now also 0 4 8
                chain(4,0,0) = 0
                chain(4,0,1) = 4
                chain(4,0,2) = 8
                """);
        Script.run("18 an interface before a body of the same target", """
                addTarget(GENERATOR,1) = 0
                addTarget(GENERATOR,1) = 1
                addTarget(GENERATOR,1) = 2
                addTarget(LIBRARY,1) = 3
                addDependency(1,0,INTERFACE) = 1
                addDependency(2,0,BODY) = 2
                addDependency(3,1,INTERFACE) = 3
                addDependency(3,2,GENERATED) = 4
                addFile(0,true,0) = 0
                chain(3,0,-1) = 3
                chain(3,0,1) = 2                     # 0 2 6 before 0 5 6
                removeDependency(3,1) = INTERFACE
                chain(3,0,1) = 5
                """);
        Script.run("18 by number, not interfaces first", """
                addTarget(GENERATOR,1) = 0
                addTarget(LIBRARY,1) = 1
                addTarget(LIBRARY,1) = 2
                addDependency(2,0,GENERATED) = 1
                addDependency(2,1,INTERFACE) = 2
                addFile(0,false,0) = 0
                addFile(1,true,1) = 1
                chain(2,0,-1) = 2
                chain(2,0,0) = 1                     # 1 4 before 2 4
                """);
    }

    private static void chainToAndThroughThePairZero() {
        Script.run("18 pair 0", """
                addTarget(LIBRARY,1) = 0
                addTarget(LIBRARY,1) = 1
                addTarget(LIBRARY,1) = 2
                addDependency(0,1,INTERFACE) = 1
                addDependency(2,0,INTERFACE) = 2
                addFile(1,true,0) = 0
                chain(0,0,-1) = 2
                chain(0,0,0) = 2
                chain(0,0,1) = 0
                chain(0,0,2) = NONE
                chain(2,0,-1) = 3
                chain(2,0,0) = 2
                chain(2,0,1) = 0
                chain(2,0,2) = 4
                chain(0,1,-1) = 3
                chain(0,1,1) = 0
                """);
    }

    /** Generators one behind the other: each gives two pairs of the chain. */
    private static void longestChain() {
        ChangeImpact x = new ChangeImpact();
        Script.on(x, "18 forty pairs", "addTarget(GENERATOR,1) = 0; addFile(0,true,0) = 0");
        for (int t = 1; t < 20; t++) {
            Script.on(x, "18 forty pairs", "addTarget(GENERATOR,1) = " + t,
                    "addDependency(" + t + "," + (t - 1) + ",GENERATED) = " + t);
        }
        Script.on(x, "18 forty pairs", "chain(19,1,-1) = 40; chain(19,0,-1) = 39; chain(19,1,40) = NONE");
        for (int i = 0; i < 40; i++) {
            Script.on(x, "18 forty pairs", "chain(19,1," + i + ") = " + i);
        }
        Script.on(x, "18 forty pairs", "clearChanges() = 1; chain(19,1,-1) = NONE; chain(19,1,39) = NONE");
    }

    private static void impact() {
        Script.run("19 impact", """
                impact(0,0) = NO_SUCH_TARGET
                addTarget(GENERATOR,1) = 0
                addTarget(LIBRARY,10) = 1
                addTarget(LIBRARY,100) = 2
                addTarget(TEST,50) = 3
                addDependency(1,0,GENERATED) = 1
                addDependency(2,1,BODY) = 2
                addDependency(3,2,RUN) = 3
                impact(0,BODY_PART) = 111
                impact(0,INTERFACE_PART) = 111
                impact(1,INTERFACE_PART) = 110
                impact(1,BODY_PART) = 10
                impact(2,INTERFACE_PART) = 100       # a test that only runs is not rebuilt
                impact(2,BODY_PART) = 100
                impact(3,BODY_PART) = 50
                addFile(3,true,0) = 0                # the change set does not matter
                impact(1,BODY_PART) = 10
                directlyChanged(INTERFACE_PART) = 8
                directlyChanged(BODY_PART) = 0
                impact(4,2) = NO_SUCH_TARGET         # before BAD_VALUE
                impact(-1,0) = NO_SUCH_TARGET
                impact(MAX,MIN) = NO_SUCH_TARGET
                impact(0,2) = BAD_VALUE
                impact(0,-1) = BAD_VALUE
                impact(0,MAX) = BAD_VALUE
                removeDependency(2,1) = BODY
                addDependency(2,1,INTERFACE) = 3
                addDependency(1,3,BODY) = NOT_ALLOWED
                addDependency(3,1,BODY) = 4
                impact(0,BODY_PART) = 161            # a target counts once
                """);
    }

    private static void mostCritical() {
        Script.run("20 mostCritical", """
                mostCritical(INTERFACE_PART) = NONE
                mostCritical(BODY_PART) = NONE
                mostCritical(2) = BAD_VALUE          # before NONE
                mostCritical(-1) = BAD_VALUE
                mostCritical(MIN) = BAD_VALUE
                save(0) = 0
                addTarget(TEST,1) = 0
                mostCritical(INTERFACE_PART) = 0
                mostCritical(BODY_PART) = 0
                restore(0) = 0
                mostCritical(BODY_PART) = NONE
                addTarget(LIBRARY,5) = 0
                mostCritical(INTERFACE_PART) = 0
                addTarget(LIBRARY,6) = 1
                addTarget(LIBRARY,6) = 2
                mostCritical(INTERFACE_PART) = 1     # of several the smallest number
                mostCritical(BODY_PART) = 1
                addDependency(1,0,BODY) = 1
                mostCritical(INTERFACE_PART) = 0     # 11, against 6
                mostCritical(BODY_PART) = 1
                addDependency(1,2,BODY) = 2
                mostCritical(INTERFACE_PART) = 2     # 12, against 11
                addFile(0,true,0) = 0                # the change set does not matter
                addFile(0,false,1) = 1
                mostCritical(INTERFACE_PART) = 2
                mostCritical(BODY_PART) = 1
                addTarget(GENERATOR,3) = 3
                addDependency(2,3,GENERATED) = 3
                mostCritical(BODY_PART) = 3          # 3 and 6 and 6
                mostCritical(INTERFACE_PART) = 3
                directlyChanged(INTERFACE_PART) = 1
                mostCritical(MAX) = BAD_VALUE
                """);
    }
}
