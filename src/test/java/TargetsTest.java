/** Promises 1 to 5: a new object, targets and dependencies. */
public final class TargetsTest {
    public static void main(String[] args) {
        newObject();
        objectsAreApart();
        addTarget();
        limitsOfTargets();
        dependenciesAndTheirErrors();
        whatIsAllowed();
        orderOfErrors();
        cycles();
        sixtyDependencies();
        removeDependency();
        dependenciesLeaveTheChangeSet();
        Script.end();
    }

    private static void newObject() {
        Script.run("1 new object", """
                targetCount() = 0
                targetOf(0) = NO_SUCH_FILE
                nameOf(0) = NO_SUCH_FILE
                follow(0) = NONE
                follow(99) = NONE
                directlyChanged(INTERFACE_PART) = 0
                directlyChanged(BODY_PART) = 0
                changed(INTERFACE_PART) = 0
                changed(BODY_PART) = 0
                affectedTests() = 0
                mostCritical(INTERFACE_PART) = NONE
                rebuildOrder(-1) = 0
                rebuildOrder(0) = NONE
                rebuildTime() = 0
                shardLoad(4,3) = 0
                bestGreatestLoad(1) = 0
                restore(0) = NOT_SAVED
                restore(1) = NOT_SAVED
                clearChanges() = 0
                addTarget(LIBRARY,1) = 0
                """);
    }

    private static void objectsAreApart() {
        ChangeImpact one = new ChangeImpact();
        ChangeImpact other = new ChangeImpact();
        Script.on(one, "1 two objects", "addTarget(TEST,5) = 0; addFile(0,false,3) = 0; save(0) = 1");
        Script.on(other, "1 two objects", "targetCount() = 0; follow(3) = NONE; affectedTests() = 0; "
                + "restore(0) = NOT_SAVED; addTarget(LIBRARY,1) = 0; addTarget(LIBRARY,1) = 1");
        Script.on(one, "1 two objects", "targetCount() = 1; affectedTests() = 1; restore(0) = 1");
    }

    private static void addTarget() {
        Script.run("2 addTarget, 3 targetCount", """
                addTarget(LIBRARY,1) = 0
                addTarget(GENERATOR,100) = 1
                addTarget(TEST,50) = 2
                targetCount() = 3
                addTarget(-1,1) = BAD_VALUE
                addTarget(3,1) = BAD_VALUE
                addTarget(LIBRARY,0) = BAD_VALUE
                addTarget(LIBRARY,-1) = BAD_VALUE
                addTarget(LIBRARY,101) = BAD_VALUE
                addTarget(MIN,MIN) = BAD_VALUE
                addTarget(MAX,MAX) = BAD_VALUE
                targetCount() = 3
                impact(0,BODY_PART) = 1
                impact(1,BODY_PART) = 100
                impact(2,BODY_PART) = 50
                addTarget(LIBRARY,7) = 3
                targetCount() = 4
                """);
    }

    private static void limitsOfTargets() {
        ChangeImpact x = new ChangeImpact();
        String name = "2 limits";
        for (int i = 0; i < 10; i++) {
            Script.on(x, name, "addTarget(TEST,1) = " + i);
        }
        Script.on(x, name, "addTarget(TEST,1) = TOO_MANY; addTarget(TEST,101) = BAD_VALUE; targetCount() = 10");
        for (int i = 10; i < 20; i++) {
            Script.on(x, name, "addTarget(" + i % 2 + "," + i + ") = " + i, "targetCount() = " + (i + 1));
        }
        Script.on(x, name, "addTarget(LIBRARY,1) = TOO_MANY; addTarget(GENERATOR,1) = TOO_MANY; "
                + "addTarget(TEST,1) = TOO_MANY; addTarget(3,1) = BAD_VALUE; addTarget(LIBRARY,0) = BAD_VALUE; "
                + "targetCount() = 20; impact(19,INTERFACE_PART) = 19; addFile(19,true,0) = 0; "
                + "addFile(20,true,1) = NO_SUCH_TARGET");
        ChangeImpact few = new ChangeImpact();
        for (int i = 0; i < 11; i++) {
            Script.on(few, "2 limits, tests last", "addTarget(LIBRARY,1) = " + i);
        }
        for (int i = 11; i < 20; i++) {
            Script.on(few, "2 limits, tests last", "addTarget(TEST,1) = " + i);
        }
        Script.on(few, "2 limits, tests last", "addTarget(TEST,1) = TOO_MANY; addTarget(LIBRARY,1) = TOO_MANY");
    }

    private static void dependenciesAndTheirErrors() {
        Script.run("4 addDependency", """
                addTarget(LIBRARY,1) = 0
                addTarget(GENERATOR,1) = 1
                addTarget(TEST,1) = 2
                addDependency(-1,0,INTERFACE) = NO_SUCH_TARGET
                addDependency(0,-1,INTERFACE) = NO_SUCH_TARGET
                addDependency(3,0,INTERFACE) = NO_SUCH_TARGET
                addDependency(0,3,INTERFACE) = NO_SUCH_TARGET
                addDependency(MIN,MAX,INTERFACE) = NO_SUCH_TARGET
                addDependency(0,0,INTERFACE) = SAME_TARGET
                addDependency(0,1,-1) = BAD_VALUE
                addDependency(0,1,4) = BAD_VALUE
                addDependency(0,1,MIN) = BAD_VALUE
                addDependency(0,1,INTERFACE) = 1
                addDependency(2,0,BODY) = 2
                addDependency(2,1,RUN) = 3
                """);
    }

    private static void whatIsAllowed() {
        String targets = "addTarget(LIBRARY,1) = 0; addTarget(GENERATOR,1) = 1; addTarget(TEST,1) = 2; "
                + "addTarget(TEST,1) = 3; addTarget(LIBRARY,1) = 4; addTarget(GENERATOR,1) = 5;";
        // Nothing depends on a test, with no kind and from no kind of target.
        for (int from : new int[] {0, 1, 3}) {
            for (int kind = 0; kind < 4; kind++) {
                Script.run("4 on a test", targets, "addDependency(" + from + ",2," + kind + ") = NOT_ALLOWED");
            }
        }
        for (int from = 0; from < 4; from++) {
            boolean test = from >= 2;
            int generator = from == 1 ? 5 : 1;
            Script.run("4 on a library", targets,
                    "addDependency(" + from + ",4,GENERATED) = NOT_ALLOWED",
                    "addDependency(" + from + ",4,RUN) = " + (test ? "1" : "NOT_ALLOWED"));
            Script.run("4 on a library", targets, "addDependency(" + from + ",4,INTERFACE) = 1");
            Script.run("4 on a library", targets, "addDependency(" + from + ",4,BODY) = 1");
            Script.run("4 on a generator", targets,
                    "addDependency(" + from + "," + generator + ",RUN) = " + (test ? "1" : "NOT_ALLOWED"));
            for (int kind = 0; kind < 3; kind++) {
                Script.run("4 on a generator", targets,
                        "addDependency(" + from + "," + generator + "," + kind + ") = 1");
            }
        }
    }

    private static void orderOfErrors() {
        Script.run("4 which error counts", """
                addTarget(LIBRARY,1) = 0
                addTarget(GENERATOR,1) = 1
                addTarget(TEST,1) = 2
                addDependency(9,9,9) = NO_SUCH_TARGET      # before SAME_TARGET and BAD_VALUE
                addDependency(0,0,9) = SAME_TARGET         # before BAD_VALUE
                addDependency(2,2,INTERFACE) = SAME_TARGET # before NOT_ALLOWED
                addDependency(0,2,9) = BAD_VALUE           # before NOT_ALLOWED
                addDependency(0,1,BODY) = 1
                addDependency(0,1,RUN) = NOT_ALLOWED       # before ALREADY
                addDependency(0,1,9) = BAD_VALUE           # before ALREADY
                addDependency(1,0,GENERATED) = NOT_ALLOWED # before CYCLE
                addDependency(1,0,RUN) = NOT_ALLOWED       # before CYCLE
                addDependency(0,1,GENERATED) = ALREADY     # of any kind
                addDependency(0,1,INTERFACE) = ALREADY
                addDependency(0,1,BODY) = ALREADY
                addDependency(1,0,BODY) = CYCLE
                removeDependency(0,1) = BODY               # the errors have changed nothing
                removeDependency(1,0) = NONE
                addDependency(1,0,INTERFACE) = 1
                """);
    }

    private static void cycles() {
        Script.run("4 cycles", """
                addTarget(GENERATOR,1) = 0
                addTarget(GENERATOR,1) = 1
                addTarget(GENERATOR,1) = 2
                addTarget(GENERATOR,1) = 3
                addTarget(TEST,1) = 4
                addDependency(0,1,INTERFACE) = 1
                addDependency(1,2,BODY) = 2
                addDependency(2,3,GENERATED) = 3
                addDependency(3,0,INTERFACE) = CYCLE
                addDependency(3,1,BODY) = CYCLE
                addDependency(3,2,GENERATED) = CYCLE
                addDependency(2,0,GENERATED) = CYCLE
                addDependency(0,3,BODY) = 4                # a second way is no cycle
                addDependency(0,2,BODY) = 5
                addDependency(4,0,RUN) = 6
                addDependency(4,3,RUN) = 7
                removeDependency(1,2) = BODY
                addDependency(2,1,BODY) = 7                # that way is no cycle now
                addDependency(1,0,BODY) = CYCLE
                addDependency(1,2,BODY) = CYCLE
                addDependency(3,0,INTERFACE) = CYCLE
                """);
        ChangeImpact chain = new ChangeImpact();
        for (int t = 0; t < 20; t++) {
            Script.on(chain, "4 a long way round", "addTarget(LIBRARY,1) = " + t);
        }
        for (int t = 1; t < 20; t++) {
            Script.on(chain, "4 a long way round", "addDependency(" + t + "," + (t - 1) + ",BODY) = " + t);
        }
        Script.on(chain, "4 a long way round", "addDependency(0,19,BODY) = CYCLE; addDependency(19,0,BODY) = 20; "
                + "removeDependency(10,9) = BODY; addDependency(0,19,BODY) = CYCLE; "
                + "removeDependency(19,0) = BODY; addDependency(0,19,BODY) = 19");
    }

    private static void sixtyDependencies() {
        ChangeImpact x = new ChangeImpact();
        for (int t = 0; t < 15; t++) {
            Script.on(x, "4 sixty", "addTarget(LIBRARY,1) = " + t);
        }
        Script.on(x, "4 sixty", "addTarget(TEST,1) = 15");
        int count = 0;
        for (int u = 1; u < 15 && count < 60; u++) {
            for (int t = 0; t < u && count < 60; t++) {
                count++;
                Script.on(x, "4 sixty", "addDependency(" + u + "," + t + "," + count % 2 + ") = " + count);
            }
        }
        Script.on(x, "4 sixty", """
                addDependency(14,0,INTERFACE) = TOO_MANY
                addDependency(15,0,RUN) = TOO_MANY
                addDependency(1,0,INTERFACE) = ALREADY     # before TOO_MANY
                addDependency(0,1,INTERFACE) = CYCLE       # before TOO_MANY
                addDependency(14,15,INTERFACE) = NOT_ALLOWED
                addDependency(14,0,4) = BAD_VALUE
                addDependency(14,14,0) = SAME_TARGET
                addDependency(14,16,0) = NO_SUCH_TARGET
                removeDependency(14,0) = NONE
                removeDependency(1,0) = BODY
                addDependency(15,0,RUN) = 60
                addDependency(1,0,INTERFACE) = TOO_MANY
                """);
    }

    private static void removeDependency() {
        Script.run("5 removeDependency", """
                addTarget(LIBRARY,1) = 0
                addTarget(GENERATOR,1) = 1
                addTarget(TEST,1) = 2
                removeDependency(0,1) = NONE
                removeDependency(0,0) = NONE
                addDependency(0,1,GENERATED) = 1
                addDependency(2,0,RUN) = 2
                addDependency(2,1,INTERFACE) = 3
                removeDependency(1,0) = NONE
                removeDependency(0,3) = NO_SUCH_TARGET
                removeDependency(3,0) = NO_SUCH_TARGET
                removeDependency(-1,0) = NO_SUCH_TARGET
                removeDependency(0,-1) = NO_SUCH_TARGET
                removeDependency(MAX,MIN) = NO_SUCH_TARGET
                removeDependency(3,3) = NO_SUCH_TARGET
                removeDependency(0,1) = GENERATED
                removeDependency(0,1) = NONE
                removeDependency(2,0) = RUN
                removeDependency(2,1) = INTERFACE
                removeDependency(2,1) = NONE
                addDependency(0,1,BODY) = 1
                removeDependency(0,1) = BODY
                addDependency(1,0,BODY) = 1
                """);
    }

    private static void dependenciesLeaveTheChangeSet() {
        Script.run("4 and 5: the change set stays", """
                addTarget(LIBRARY,1) = 0
                addTarget(LIBRARY,1) = 1
                addFile(0,true,0) = 0
                addDependency(1,0,INTERFACE) = 1
                directlyChanged(INTERFACE_PART) = 1
                directlyChanged(BODY_PART) = 0
                changed(INTERFACE_PART) = 3
                removeDependency(1,0) = INTERFACE
                directlyChanged(INTERFACE_PART) = 1
                directlyChanged(BODY_PART) = 0
                changed(INTERFACE_PART) = 1
                clearChanges() = 1
                """);
    }
}
