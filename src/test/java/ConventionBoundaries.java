import java.util.ArrayList;
import java.util.List;

/** The sentences of the description that hold for every method. */
final class ConventionBoundaries {
    private static final int ALL = Document.DESCRIPTION;

    private ConventionBoundaries() {
    }

    static void test() {
        Sentence.withoutBoundary(ALL,
                "A change impact analyzer for a monorepo: it finds the build targets and tests that a set of file "
                + "changes reaches, keeping interfaces and bodies apart, orders the rebuild, and balances the tests over "
                + "shards",
                "what later calls answer is free");
        the512thCall();
        numbersOfErrors();
        theFirstOfSeveralErrors();
        errorsChangeNothing();
        noneOnlyWithoutError();
        bitMasks();
    }

    /** Each method once as the last call that is promised, behind SMALL (18 calls) and 493 edits. */
    private static void the512thCall() {
        Sentence sentence = Sentence.of(ALL, "An object is used for at most 512 calls after it has been made");
        String last = """
                addTarget(TEST,100) = 5
                targetCount() = 5
                addDependency(4,0,RUN) = 5
                removeDependency(0,1) = GENERATED
                addFile(4,true,99) = 4
                edit(2) = 3
                rename(1,0) = 11
                move(2,4) = 3
                deleteFile(0) = 10
                targetOf(2) = 3
                nameOf(2) = 14
                follow(12) = 2
                clearChanges() = 1
                directlyChanged(BODY_PART) = 2
                changed(BODY_PART) = 27
                affectedTests() = 20
                chain(4,BODY_PART,-1) = 4
                impact(1,INTERFACE_PART) = 32
                mostCritical(INTERFACE_PART) = 1
                rebuildOrder(-1) = 4
                rebuildTime() = 32
                shardOf(4,2) = 0
                shardLoad(2,1) = 7
                bestGreatestLoad(1) = 20
                save(1) = 5
                restore(0) = 5
                """;
        for (String statement : Script.statements(last)) {
            sentence.holds("the last of them", States.SMALL, "edit(1) = 1;".repeat(493), statement);
        }
    }

    private static void numbersOfErrors() {
        Sentence sentence = Sentence.of(ALL, "Methods report errors with the negative constants below");
        sentence.holds("each of them once", States.SMALL, """
                impact(5,0) = -1
                edit(3) = -2
                changed(2) = -3
                move(0,0) = -4
                addDependency(0,2,INTERFACE) = -5
                addDependency(0,1,INTERFACE) = -6
                addDependency(1,0,INTERFACE) = -7
                addFile(0,true,10) = -9
                follow(13) = -10
                restore(1) = -11
                """, States.targets(5, 8, "TEST", 1), "addTarget(TEST,1) = -8");
    }

    /** Each pair of errors of a method that can apply at once. */
    private static void theFirstOfSeveralErrors() {
        Sentence sentence = Sentence.of(ALL, "When several errors apply, a method returns the one that its description "
                + "lists first");
        sentence.refuses("addTarget, BAD_VALUE before TOO_MANY", States.FULL, """
                addTarget(3,1) = BAD_VALUE
                addTarget(-1,1) = BAD_VALUE
                addTarget(LIBRARY,0) = BAD_VALUE
                addTarget(LIBRARY,101) = BAD_VALUE
                addTarget(TEST,0) = BAD_VALUE
                addTarget(3,101) = BAD_VALUE
                """);
        sentence.refuses("addTarget, BAD_VALUE before TOO_MANY tests", States.TEN_TESTS, """
                addTarget(TEST,0) = BAD_VALUE
                addTarget(TEST,101) = BAD_VALUE
                """);
        sentence.refuses("addDependency, NO_SUCH_TARGET before the others", States.SMALL, """
                addDependency(5,5,INTERFACE) = NO_SUCH_TARGET  # SAME_TARGET
                addDependency(-1,-1,4) = NO_SUCH_TARGET        # SAME_TARGET, BAD_VALUE
                addDependency(0,5,4) = NO_SUCH_TARGET          # BAD_VALUE
                addDependency(5,0,-1) = NO_SUCH_TARGET         # BAD_VALUE
                addDependency(5,2,INTERFACE) = NO_SUCH_TARGET  # NOT_ALLOWED, to a test
                addDependency(5,0,GENERATED) = NO_SUCH_TARGET  # NOT_ALLOWED, to a library
                addDependency(0,5,GENERATED) = NO_SUCH_TARGET  # NOT_ALLOWED, to no generator
                addDependency(5,0,RUN) = NO_SUCH_TARGET        # NOT_ALLOWED, from no test
                addDependency(0,5,RUN) = NO_SUCH_TARGET        # NOT_ALLOWED, from a library
                """);
        sentence.refuses("addDependency, SAME_TARGET before the others", States.SMALL, """
                addDependency(0,0,4) = SAME_TARGET             # BAD_VALUE
                addDependency(0,0,-1) = SAME_TARGET            # BAD_VALUE
                addDependency(2,2,4) = SAME_TARGET             # BAD_VALUE
                addDependency(2,2,INTERFACE) = SAME_TARGET     # NOT_ALLOWED, to a test
                addDependency(2,2,RUN) = SAME_TARGET           # NOT_ALLOWED, to a test
                addDependency(0,0,GENERATED) = SAME_TARGET     # NOT_ALLOWED, to a library
                addDependency(0,0,RUN) = SAME_TARGET           # NOT_ALLOWED, from a library
                addDependency(0,0,INTERFACE) = SAME_TARGET     # CYCLE
                addDependency(1,1,GENERATED) = SAME_TARGET     # CYCLE
                """);
        sentence.refuses("addDependency, BAD_VALUE before the others", States.SMALL, """
                addDependency(0,2,4) = BAD_VALUE               # NOT_ALLOWED
                addDependency(4,2,-1) = BAD_VALUE              # NOT_ALLOWED
                addDependency(0,1,4) = BAD_VALUE               # ALREADY
                addDependency(3,0,-1) = BAD_VALUE              # ALREADY
                addDependency(1,0,4) = BAD_VALUE               # CYCLE
                addDependency(1,3,-1) = BAD_VALUE              # CYCLE
                """);
        sentence.refuses("addDependency, NOT_ALLOWED before the others", States.SMALL, """
                addDependency(3,0,GENERATED) = NOT_ALLOWED     # ALREADY
                addDependency(3,0,RUN) = NOT_ALLOWED           # ALREADY
                addDependency(2,3,GENERATED) = NOT_ALLOWED     # ALREADY
                addDependency(0,1,RUN) = NOT_ALLOWED           # ALREADY
                addDependency(0,3,GENERATED) = NOT_ALLOWED     # CYCLE
                addDependency(1,0,RUN) = NOT_ALLOWED           # CYCLE
                addDependency(3,2,INTERFACE) = NOT_ALLOWED     # CYCLE
                addDependency(1,4,BODY) = NOT_ALLOWED          # CYCLE
                """);
        sentence.refuses("addDependency, TOO_MANY behind the others", States.FULL, """
                addDependency(20,0,INTERFACE) = NO_SUCH_TARGET
                addDependency(0,-1,INTERFACE) = NO_SUCH_TARGET
                addDependency(12,12,INTERFACE) = SAME_TARGET
                addDependency(12,0,4) = BAD_VALUE
                addDependency(12,0,-1) = BAD_VALUE
                addDependency(12,13,INTERFACE) = NOT_ALLOWED
                addDependency(12,0,GENERATED) = NOT_ALLOWED
                addDependency(0,1,RUN) = NOT_ALLOWED
                addDependency(1,0,INTERFACE) = ALREADY
                addDependency(11,4,RUN) = ALREADY
                addDependency(0,1,INTERFACE) = CYCLE
                addDependency(0,9,BODY) = CYCLE
                """);
        sentence.refuses("removeDependency, NO_SUCH_TARGET of both", States.SMALL,
                "removeDependency(5,-1) = NO_SUCH_TARGET");
        sentence.refuses("addFile, NO_SUCH_TARGET before the others", States.SMALL, """
                addFile(5,true,100) = NO_SUCH_TARGET           # BAD_VALUE
                addFile(-1,false,-1) = NO_SUCH_TARGET          # BAD_VALUE
                addFile(5,true,10) = NO_SUCH_TARGET            # NAME_IN_USE
                addFile(-1,false,14) = NO_SUCH_TARGET          # NAME_IN_USE
                """);
        sentence.refuses("addFile, TOO_MANY behind the others", States.FULL, """
                addFile(20,true,50) = NO_SUCH_TARGET
                addFile(20,true,100) = NO_SUCH_TARGET
                addFile(20,true,0) = NO_SUCH_TARGET
                addFile(0,true,100) = BAD_VALUE
                addFile(0,false,-1) = BAD_VALUE
                addFile(0,true,0) = NAME_IN_USE
                addFile(0,false,38) = NAME_IN_USE
                """);
        sentence.refuses("rename, NO_SUCH_FILE before the others", States.SMALL, """
                rename(4,100) = NO_SUCH_FILE                   # BAD_VALUE
                rename(-1,-1) = NO_SUCH_FILE                   # BAD_VALUE
                rename(3,100) = NO_SUCH_FILE                   # BAD_VALUE
                rename(4,10) = NO_SUCH_FILE                    # NAME_IN_USE
                rename(3,14) = NO_SUCH_FILE                    # NAME_IN_USE
                """);
        sentence.refuses("move, NO_SUCH_FILE before the others", States.SMALL, """
                move(4,5) = NO_SUCH_FILE                       # NO_SUCH_TARGET
                move(-1,-1) = NO_SUCH_FILE                     # NO_SUCH_TARGET
                move(3,5) = NO_SUCH_FILE                       # NO_SUCH_TARGET
                move(3,2) = NO_SUCH_FILE                       # SAME_TARGET, before it was deleted
                """);
        sentence.refuses("chain, impact and shardOf, NO_SUCH_TARGET before BAD_VALUE", States.SMALL, """
                chain(5,2,0) = NO_SUCH_TARGET
                chain(-1,-1,-1) = NO_SUCH_TARGET
                impact(5,2) = NO_SUCH_TARGET
                impact(-1,-1) = NO_SUCH_TARGET
                shardOf(5,0) = NO_SUCH_TARGET
                shardOf(-1,5) = NO_SUCH_TARGET
                """);
        sentence.refuses("shardLoad, BAD_VALUE of both", States.SMALL, "shardLoad(0,0) = BAD_VALUE; "
                + "shardLoad(5,5) = BAD_VALUE");
        sentence.refuses("restore, BAD_VALUE before NOT_SAVED", States.NEW, "restore(2) = BAD_VALUE; "
                + "restore(-1) = BAD_VALUE");
    }

    /** All refused calls in a row; as one of them might hide what another leaves, each stands alone elsewhere. */
    private static void errorsChangeNothing() {
        Sentence sentence = Sentence.of(ALL, "A call that returns an error changes nothing");
        String onSmall = """
                addTarget(3,1) = BAD_VALUE
                addTarget(TEST,101) = BAD_VALUE
                addDependency(0,5,INTERFACE) = NO_SUCH_TARGET
                addDependency(1,1,INTERFACE) = SAME_TARGET
                addDependency(2,1,4) = BAD_VALUE
                addDependency(1,2,INTERFACE) = NOT_ALLOWED
                addDependency(0,1,INTERFACE) = ALREADY
                addDependency(1,3,BODY) = CYCLE
                removeDependency(0,5) = NO_SUCH_TARGET
                addFile(5,true,12) = NO_SUCH_TARGET    # file 2 had the name
                addFile(4,true,100) = BAD_VALUE
                addFile(4,true,10) = NAME_IN_USE
                edit(3) = NO_SUCH_FILE
                rename(3,12) = NO_SUCH_FILE
                rename(0,100) = BAD_VALUE
                rename(0,10) = NAME_IN_USE
                rename(0,14) = NAME_IN_USE
                move(3,0) = NO_SUCH_FILE
                move(0,5) = NO_SUCH_TARGET
                move(0,0) = SAME_TARGET
                deleteFile(3) = NO_SUCH_FILE
                targetOf(3) = NO_SUCH_FILE
                nameOf(3) = NO_SUCH_FILE
                follow(100) = BAD_VALUE
                directlyChanged(2) = BAD_VALUE
                changed(2) = BAD_VALUE
                chain(5,0,0) = NO_SUCH_TARGET
                chain(0,2,0) = BAD_VALUE
                impact(5,0) = NO_SUCH_TARGET
                impact(0,2) = BAD_VALUE
                mostCritical(2) = BAD_VALUE
                shardOf(5,1) = NO_SUCH_TARGET
                shardOf(2,5) = BAD_VALUE
                shardLoad(5,0) = BAD_VALUE
                shardLoad(2,2) = BAD_VALUE
                bestGreatestLoad(0) = BAD_VALUE
                save(2) = BAD_VALUE
                restore(2) = BAD_VALUE
                restore(1) = NOT_SAVED
                """;
        String onFull = """
                addTarget(LIBRARY,1) = TOO_MANY
                addTarget(TEST,1) = TOO_MANY
                addDependency(12,0,INTERFACE) = TOO_MANY
                addFile(0,true,50) = TOO_MANY
                """;
        inARow(sentence, States.SMALL, onSmall);
        inARow(sentence, States.FULL, onFull);
    }

    private static void inARow(Sentence sentence, String before, String refused) {
        sentence.holds("in a row", before, refused);
        List<String> with = new ArrayList<>(Sentence.callsOf(before));
        with.addAll(Sentence.callsOf(refused));
        sentence.same("in a row", with, Sentence.callsOf(before));
    }

    private static void noneOnlyWithoutError() {
        Sentence sentence = Sentence.of(ALL, "NONE is not an error: it is returned only if no error applies");
        sentence.refuses("what would be NONE", States.NEW, """
                removeDependency(0,1) = NO_SUCH_TARGET
                follow(-1) = BAD_VALUE
                follow(100) = BAD_VALUE
                chain(0,0,0) = NO_SUCH_TARGET
                mostCritical(-1) = BAD_VALUE
                mostCritical(2) = BAD_VALUE
                shardOf(0,1) = NO_SUCH_TARGET
                """);
        sentence.refuses("what would be NONE", States.SMALL, """
                removeDependency(0,5) = NO_SUCH_TARGET
                chain(5,0,0) = NO_SUCH_TARGET
                chain(1,2,0) = BAD_VALUE               # not changed
                chain(1,-1,-1) = BAD_VALUE
                chain(1,2,99) = BAD_VALUE              # no such index
                shardOf(5,1) = NO_SUCH_TARGET
                shardOf(0,0) = BAD_VALUE               # not a test
                shardOf(0,5) = BAD_VALUE
                """);
        sentence.leaves("NONE changes nothing", States.SMALL, """
                removeDependency(1,0) = NONE
                follow(13) = NONE
                follow(99) = NONE
                chain(1,0,-1) = NONE
                chain(1,1,1) = NONE
                rebuildOrder(4) = NONE
                shardOf(0,1) = NONE
                """);
        sentence.leaves("NONE changes nothing", States.NEW, "mostCritical(0) = NONE; follow(0) = NONE; "
                + "rebuildOrder(0) = NONE");
    }

    private static void bitMasks() {
        Sentence sentence = Sentence.of(ALL, "A set of targets is returned as a bit mask: bit t is set if target t is in "
                + "the set");
        sentence.holds("no target, bit 0, bit 19 and all twenty", States.twentyTargets(), """
                directlyChanged(0) = 0
                directlyChanged(1) = 0
                changed(0) = 0
                changed(1) = 0
                affectedTests() = 0
                addFile(0,true,0) = 0
                directlyChanged(0) = 1
                changed(0) = 1
                changed(1) = 1
                clearChanges() = 1
                addFile(19,true,1) = 1
                directlyChanged(0) = 524288
                changed(0) = 524288
                changed(1) = 524288
                affectedTests() = 524288
                clearChanges() = 1
                addFile(10,false,2) = 2
                directlyChanged(1) = 1024
                changed(1) = 1024
                affectedTests() = 1024
                """);
        sentence.holds("bit 0 of the tests", States.changedTests(1), "affectedTests() = 1; changed(1) = 1; changed(0) = 0");
        sentence.holds("all", States.twentyTargets(), States.fortyFiles(), """
                directlyChanged(0) = 1048575
                directlyChanged(1) = 1048575
                changed(0) = 1048575
                changed(1) = 1048575
                affectedTests() = 1047552
                """);
    }
}
