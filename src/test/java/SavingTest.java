/** Promises 26 and 27: save and restore. */
public final class SavingTest {
    private static final String STATE = """
            addTarget(GENERATOR,5) = 0
            addTarget(LIBRARY,7) = 1
            addTarget(TEST,9) = 2
            addDependency(1,0,GENERATED) = 1
            addDependency(2,1,RUN) = 2
            addFile(0,false,10) = 0
            addFile(1,true,11) = 1
            addFile(1,false,12) = 2
            rename(2,13) = 12
            deleteFile(1) = 11
            clearChanges() = 3
            edit(0) = 0
            """;

    /** Asks for all that STATE leaves. */
    private static final String STANDS = """
            targetCount() = 3
            targetOf(0) = 0
            targetOf(1) = NO_SUCH_FILE
            targetOf(2) = 1
            nameOf(0) = 10
            nameOf(2) = 13
            nameOf(3) = NO_SUCH_FILE
            follow(10) = 0
            follow(11) = NONE
            follow(12) = 2
            follow(13) = 2
            follow(14) = NONE
            directlyChanged(INTERFACE_PART) = 0
            directlyChanged(BODY_PART) = 1
            changed(INTERFACE_PART) = 2
            changed(BODY_PART) = 3
            affectedTests() = 4
            chain(1,1,-1) = 3
            impact(0,BODY_PART) = 12
            rebuildTime() = 12
            shardLoad(2,0) = 9
            """;

    /** Changes everything that can be changed. */
    private static final String OTHER = """
            addTarget(TEST,90) = 3
            addTarget(LIBRARY,90) = 4
            removeDependency(1,0) = GENERATED
            addDependency(0,1,INTERFACE) = 2
            addDependency(3,0,BODY) = 3
            removeDependency(2,1) = RUN
            addFile(3,true,14) = 3
            move(0,1) = 0
            rename(0,12) = 10
            addFile(0,true,10) = 4
            deleteFile(2) = 13
            """;

    public static void main(String[] args) {
        errors();
        everythingComesBack();
        slotsAreApart();
        theSlotKeepsIt();
        savingAgainOverwrites();
        headersComeBack();
        limitsComeBack();
        Script.end();
    }

    private static void errors() {
        Script.run("26 and 27: errors", """
                save(2) = BAD_VALUE
                save(-1) = BAD_VALUE
                save(MIN) = BAD_VALUE
                save(MAX) = BAD_VALUE
                restore(2) = BAD_VALUE
                restore(-1) = BAD_VALUE
                restore(MIN) = BAD_VALUE
                restore(MAX) = BAD_VALUE
                restore(0) = NOT_SAVED
                restore(1) = NOT_SAVED
                save(1) = 0
                restore(0) = NOT_SAVED
                restore(1) = 0
                addTarget(TEST,4) = 0
                restore(0) = NOT_SAVED
                targetCount() = 1
                save(0) = 1
                restore(1) = 0
                targetCount() = 0
                impact(0,0) = NO_SUCH_TARGET
                restore(0) = 1
                targetCount() = 1
                """);
    }

    private static void everythingComesBack() {
        for (int slot = 0; slot < 2; slot++) {
            Script.run("27 slot " + slot, STATE, STANDS, "save(" + slot + ") = 3", STANDS, OTHER,
                    "targetCount() = 5", "restore(" + slot + ") = 3", STANDS,
                    // The numbers and the kinds come back too.
                    """
                    addDependency(0,1,BODY) = CYCLE
                    addDependency(1,0,BODY) = ALREADY
                    addDependency(1,2,BODY) = NOT_ALLOWED
                    addDependency(2,1,RUN) = ALREADY
                    removeDependency(2,1) = RUN
                    addDependency(2,1,BODY) = 2
                    addFile(1,true,13) = NAME_IN_USE
                    addFile(1,true,10) = NAME_IN_USE
                    addFile(1,true,11) = 3
                    addTarget(LIBRARY,1) = 3
                    addDependency(0,3,GENERATED) = NOT_ALLOWED
                    addDependency(3,0,RUN) = NOT_ALLOWED
                    impact(3,0) = 1
                    clearChanges() = 2
                    """);
        }
    }

    private static void slotsAreApart() {
        Script.run("26 and 27: two slots", "save(0) = 0", STATE, "save(1) = 3", OTHER, """
                restore(0) = 0
                targetCount() = 0
                follow(10) = NONE
                clearChanges() = 0
                addTarget(TEST,1) = 0
                addFile(0,false,99) = 0
                affectedTests() = 1
                restore(1) = 3
                """, STANDS, """
                restore(0) = 0
                targetCount() = 0
                targetOf(0) = NO_SUCH_FILE
                follow(99) = NONE
                directlyChanged(BODY_PART) = 0
                restore(1) = 3
                """, STANDS);
    }

    private static void theSlotKeepsIt() {
        Script.run("27 the slot keeps it", STATE, "save(0) = 3", OTHER, "restore(0) = 3", STANDS, OTHER,
                "restore(0) = 3", STANDS, "clearChanges() = 1; edit(2) = 1; deleteFile(0) = 10",
                "restore(0) = 3; restore(0) = 3", STANDS);
        // What is saved are not the slots: they stay as they are when one of them is restored.
        Script.run("26 except for the saved states", """
                save(0) = 0
                addTarget(LIBRARY,1) = 0
                save(1) = 1
                restore(0) = 0
                restore(1) = 1
                addTarget(LIBRARY,1) = 1
                save(0) = 2
                restore(1) = 1
                restore(0) = 2
                """);
    }

    private static void savingAgainOverwrites() {
        Script.run("26 overwrites", "addTarget(LIBRARY,3) = 0; addFile(0,true,50) = 0; save(0) = 1; save(1) = 1",
                "addTarget(LIBRARY,3) = 1; addFile(1,false,51) = 1; clearChanges() = 2; save(0) = 2",
                "restore(1) = 1; directlyChanged(0) = 1; follow(51) = NONE; targetCount() = 1",
                "restore(0) = 2; directlyChanged(0) = 0; follow(51) = 1; targetCount() = 2",
                // Less than what was saved before: nothing of it may be left.
                "restore(1) = 1; deleteFile(0) = 50; clearChanges() = 1; save(0) = 1; restore(1) = 1",
                "follow(50) = 0; restore(0) = 1; follow(50) = NONE; follow(51) = NONE; nameOf(1) = NO_SUCH_FILE",
                "clearChanges() = 0; addFile(0,true,51) = 1; addTarget(TEST,1) = 1; addTarget(LIBRARY,1) = 2");
        Script.run("26 an error saves nothing", STATE, "save(0) = 3", OTHER, "save(2) = BAD_VALUE; restore(0) = 3", STANDS,
                "restore(3) = BAD_VALUE; restore(1) = NOT_SAVED", STANDS);
    }

    /** The same numbers of files, once a header and once a source. */
    private static void headersComeBack() {
        Script.run("27 headers and sources", """
                addTarget(LIBRARY,1) = 0
                save(0) = 1
                addFile(0,true,0) = 0
                addFile(0,false,1) = 1
                save(1) = 1
                restore(0) = 1
                addFile(0,false,0) = 0
                addFile(0,true,1) = 1
                save(0) = 1
                restore(1) = 1
                clearChanges() = 2
                edit(0) = 0
                directlyChanged(INTERFACE_PART) = 1
                directlyChanged(BODY_PART) = 0
                restore(0) = 1
                clearChanges() = 2
                edit(0) = 0
                directlyChanged(INTERFACE_PART) = 0
                directlyChanged(BODY_PART) = 1
                rename(1,5) = 1
                directlyChanged(INTERFACE_PART) = 1
                """);
    }

    private static void limitsComeBack() {
        ChangeImpact x = new ChangeImpact();
        Script.on(x, "27 limits", "addTarget(LIBRARY,1) = 0; save(0) = 1");
        for (int t = 1; t < 20; t++) {
            Script.on(x, "27 limits", "addTarget(" + (t <= 10 ? "TEST" : "LIBRARY") + ",1) = " + t);
        }
        for (int f = 0; f < 40; f++) {
            Script.on(x, "27 limits", "addFile(0,true," + f + ") = " + f);
        }
        int count = 0;
        for (int u = 11; u < 20 && count < 60; u++) {
            for (int t = 1; t <= 10 && count < 60; t++) {
                count++;
                Script.on(x, "27 limits", "addDependency(" + t + "," + u + ",RUN) = " + count);
            }
        }
        Script.on(x, "27 limits", """
                save(1) = 20
                restore(0) = 1
                addTarget(TEST,1) = 1
                addFile(1,true,39) = 0
                addDependency(1,0,RUN) = 1
                restore(1) = 20
                addTarget(TEST,1) = TOO_MANY
                addTarget(LIBRARY,1) = TOO_MANY
                addFile(0,true,40) = TOO_MANY
                addDependency(10,19,RUN) = TOO_MANY
                deleteFile(39) = 39
                restore(0) = 1
                restore(1) = 20
                nameOf(39) = 39
                """);
    }
}
