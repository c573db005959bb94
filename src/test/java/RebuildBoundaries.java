/** Promises 21 and 22, and what the description says of the rebuild. */
final class RebuildBoundaries {
    private static final int ALL = Document.DESCRIPTION;

    private RebuildBoundaries() {
    }

    static void test() {
        waiting();
        order();
        indexes();
        time();
    }

    private static void waiting() {
        Sentence waits = Sentence.of(ALL, "A rebuilt target waits for the rebuilt targets on which it depends with a "
                + "dependency of the kind INTERFACE, BODY or GENERATED");
        // The test 0 depends on the generator 1; both are directly changed in their bodies.
        String two = "addTarget(TEST,5) = 0; addTarget(GENERATOR,10) = 1; addFile(0,false,0) = 0; addFile(1,false,1) = 1;";
        for (String kind : new String[] {"INTERFACE", "BODY", "GENERATED"}) {
            waits.holds(kind, two, "addDependency(0,1," + kind + ") = 1; rebuildOrder(0) = 1; rebuildOrder(1) = 0; "
                    + "rebuildTime() = 15");
        }
        waits.holds("not RUN", two, "addDependency(0,1,RUN) = 1; rebuildOrder(0) = 0; rebuildOrder(1) = 1; "
                + "rebuildTime() = 10");
        waits.holds("not RUN, on a smaller number", "addTarget(LIBRARY,10) = 0; addTarget(TEST,5) = 1; "
                + "addDependency(1,0,RUN) = 1; addFile(0,false,0) = 0; addFile(1,false,1) = 1; rebuildOrder(0) = 0; "
                + "rebuildOrder(1) = 1; rebuildTime() = 10");
        waits.holds("not for one that is not rebuilt", two, "addDependency(0,1,BODY) = 1; clearChanges() = 2; "
                + "edit(0) = 0; rebuildOrder(-1) = 1; rebuildOrder(0) = 0; rebuildTime() = 5");
        waits.holds("not over one that is not rebuilt", States.targets(0, 3, "LIBRARY", 10),
                "addDependency(0,1,BODY) = 1; addDependency(1,2,BODY) = 2; addFile(0,false,0) = 0; "
                + "addFile(2,false,1) = 1; rebuildOrder(-1) = 2; rebuildOrder(0) = 0; rebuildOrder(1) = 2; "
                + "rebuildTime() = 10; addFile(1,false,2) = 2; rebuildOrder(-1) = 3; rebuildOrder(0) = 2; "
                + "rebuildOrder(1) = 1; rebuildOrder(2) = 0; rebuildTime() = 30");
    }

    private static void order() {
        StringBuilder backwards = new StringBuilder(States.targets(0, 20, "LIBRARY", 100) + States.row(20,
                "INTERFACE") + "addFile(0,true,0) = 0;");
        for (int i = 0; i < 20; i++) {
            backwards.append("rebuildOrder(" + i + ") = " + i + ";");
        }
        StringBuilder apart = new StringBuilder(States.twentyTargets() + States.fortyFiles());
        for (int i = 0; i < 20; i++) {
            apart.append("rebuildOrder(" + i + ") = " + i + ";");
        }
        Sentence.of(ALL, "The rebuild order lists all rebuilt targets: next comes always the target with the smallest "
                        + "number that is not listed yet and waits only for targets that are listed")
                .holds("none", States.FULL, "rebuildOrder(-1) = 0; rebuildOrder(0) = NONE")
                .holds("one", States.twentyTargets(), "addFile(19,true,0) = 0; rebuildOrder(-1) = 1; "
                        + "rebuildOrder(0) = 19; rebuildOrder(1) = NONE")
                .holds("twenty that wait for nothing", apart.toString(), "rebuildOrder(-1) = 20; rebuildOrder(20) = NONE")
                .holds("twenty that wait one for the other", backwards.toString(), "rebuildOrder(-1) = 20; "
                        + "rebuildOrder(20) = NONE")
                .holds("the greatest number first", States.targets(0, 3, "LIBRARY", 1),
                        "addDependency(0,1,INTERFACE) = 1; addDependency(1,2,INTERFACE) = 2; addFile(2,true,0) = 0; "
                        + "rebuildOrder(0) = 2; rebuildOrder(1) = 1; rebuildOrder(2) = 0; rebuildOrder(3) = NONE")
                .holds("a smaller number as soon as it can", States.targets(0, 4, "LIBRARY", 1),
                        "addDependency(0,2,BODY) = 1; addFile(0,false,0) = 0; addFile(1,false,1) = 1; "
                        + "addFile(2,false,2) = 2; addFile(3,false,3) = 3; rebuildOrder(0) = 1; rebuildOrder(1) = 2; "
                        + "rebuildOrder(2) = 0; rebuildOrder(3) = 3")
                .holds("it waits for the last of several", States.targets(0, 4, "LIBRARY", 1),
                        "addDependency(0,1,BODY) = 1; addDependency(0,3,BODY) = 2; addFile(0,false,0) = 0; "
                        + "addFile(1,false,1) = 1; addFile(2,false,2) = 2; addFile(3,false,3) = 3; rebuildOrder(0) = 1; "
                        + "rebuildOrder(1) = 2; rebuildOrder(2) = 3; rebuildOrder(3) = 0");
    }

    private static void indexes() {
        Sentence.of(21, "Returns a target of the rebuild order").leaves("asking changes nothing", States.SMALL,
                "rebuildOrder(0) = 1; rebuildOrder(1) = 0; rebuildOrder(2) = 3; rebuildOrder(3) = 4; rebuildOrder(-1) = 4");
        Sentence.of(21, "index: index in the order, from 0; or -1 for the number of rebuilt targets")
                .holds("-1, 0 and the last", States.SMALL, "rebuildOrder(-1) = 4; rebuildOrder(0) = 1; rebuildOrder(3) = 4")
                .leaves("-2 and one behind the last", States.SMALL, "rebuildOrder(-2) = NONE; rebuildOrder(4) = NONE")
                .holds("-1 if nothing is rebuilt", States.FULL, "rebuildOrder(-1) = 0")
                .holds("-1 without targets", "rebuildOrder(-1) = 0");
        Sentence.of(21, "Returns the target, or the number of targets")
                .holds("the first and the last of twenty", States.twentyTargets(), States.fortyFiles(),
                        "rebuildOrder(0) = 0; rebuildOrder(19) = 19; rebuildOrder(-1) = 20");
        Sentence.of(21, "NONE if there is no such index")
                .leaves("one below, one above, and far off", States.SMALL, States.each("rebuildOrder(?) = NONE", -2, -3,
                        4, 5, 19, 20, 32))
                .leaves("nothing is rebuilt", States.FULL, States.each("rebuildOrder(?) = NONE", -2, 0, 1, 19, 20))
                .leaves("without targets", States.NEW, States.each("rebuildOrder(?) = NONE", -2, 0, 1))
                .holds("behind the twentieth", States.twentyTargets(), States.fortyFiles(), "rebuildOrder(20) = NONE; "
                        + "rebuildOrder(21) = NONE");
    }

    private static void time() {
        String together = States.targets(0, 20, "LIBRARY", 100);
        Sentence.of(ALL, "The rebuild time is the time until all are built if each rebuilt target starts as soon as all "
                        + "targets for which it waits are built, and any number of targets can be built at the same time")
                .holds("twenty at the same time", together, States.fortyFiles(), "rebuildOrder(-1) = 20; "
                        + "rebuildTime() = 100")
                .holds("twenty one behind the other", together, States.row(20, "INTERFACE"), "addFile(0,true,0) = 0; "
                        + "rebuildTime() = 2000")
                .holds("the last to end is not the last of the order", "addTarget(LIBRARY,100) = 0; "
                        + "addTarget(LIBRARY,1) = 1; addFile(0,false,0) = 0; addFile(1,false,1) = 1; "
                        + "rebuildOrder(1) = 1; rebuildTime() = 100")
                .holds("it waits for the slower of two", "addTarget(LIBRARY,7) = 0; addTarget(LIBRARY,50) = 1; "
                        + "addTarget(LIBRARY,3) = 2; addDependency(2,0,BODY) = 1; addDependency(2,1,BODY) = 2; "
                        + "addFile(0,true,0) = 0; rebuildTime() = 10; addFile(1,false,1) = 1; rebuildTime() = 53")
                .holds("it waits for the slower of two, which is listed first", "addTarget(LIBRARY,50) = 0; "
                        + "addTarget(LIBRARY,7) = 1; addTarget(LIBRARY,3) = 2; addDependency(2,0,BODY) = 1; "
                        + "addDependency(2,1,BODY) = 2; addFile(0,true,0) = 0; addFile(1,false,1) = 1; rebuildTime() = 53")
                .holds("two ways of the same length", States.targets(0, 4, "LIBRARY", 10),
                        "addDependency(1,0,INTERFACE) = 1; addDependency(2,0,INTERFACE) = 2; "
                        + "addDependency(3,1,BODY) = 3; addDependency(3,2,BODY) = 4; addFile(0,true,0) = 0; "
                        + "rebuildTime() = 30");
        Sentence.of(22, "Returns the rebuild time, 0 if no target is rebuilt")
                .leaves("without targets", States.NEW, "rebuildTime() = 0")
                .leaves("no target is rebuilt", States.FULL, "rebuildTime() = 0")
                .leaves("four", States.SMALL, "rebuildTime() = 32")
                .holds("one of weight 1", "addTarget(TEST,1) = 0; addFile(0,false,0) = 0; rebuildTime() = 1; "
                        + "clearChanges() = 1; rebuildTime() = 0")
                .holds("a test that runs and is not rebuilt takes none", "addTarget(LIBRARY,1) = 0; "
                        + "addTarget(TEST,100) = 1; addDependency(1,0,RUN) = 1; addFile(0,true,0) = 0; "
                        + "affectedTests() = 2; rebuildTime() = 1");
    }
}
