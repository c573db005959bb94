/** Promises 26 and 27. */
final class SavingBoundaries {
    private static final int[] NO_SLOT = {-1, -2, 2, 3, 32, 33, 256};

    /** For SMALL: changes of everything that can be changed. */
    private static final String OTHERWISE = """
            addTarget(TEST,100) = 5
            addTarget(GENERATOR,50) = 6
            removeDependency(0,1) = GENERATED
            addDependency(1,0,BODY) = 4
            addDependency(5,6,RUN) = 5
            addFile(5,true,13) = 4
            addFile(6,false,12) = 5
            rename(0,99) = 10
            rename(1,10) = 11
            move(2,4) = 3
            deleteFile(2) = 14
            """;

    /** As SMALL without its saved slot, and with nothing that is the same under any number. */
    private static final String MIRROR = """
            addTarget(TEST,4) = 0
            addTarget(LIBRARY,6) = 1
            addTarget(GENERATOR,8) = 2
            addTarget(GENERATOR,12) = 3
            addTarget(LIBRARY,14) = 4
            addTarget(LIBRARY,15) = 5
            addDependency(0,2,RUN) = 1
            addDependency(0,1,BODY) = 2
            addDependency(1,3,INTERFACE) = 3
            addDependency(3,2,GENERATED) = 4
            addDependency(4,2,INTERFACE) = 5
            addFile(5,false,14) = 0
            addFile(4,true,10) = 1
            addFile(2,false,13) = 2
            addFile(0,true,11) = 3
            rename(3,12) = 11
            deleteFile(0) = 14
            clearChanges() = 4
            edit(2) = 2
            """;

    private SavingBoundaries() {
    }

    static void test() {
        slots();
        save();
        whatIsSaved();
        restore();
    }

    private static void slots() {
        Sentence.of(26, "slot: 0 or 1").holds("both", "save(0) = 0; addTarget(LIBRARY,1) = 0; save(1) = 1; "
                        + "restore(0) = 0; restore(1) = 1")
                .refuses("neither -1 nor 2", States.SMALL, "save(-1) = BAD_VALUE; save(2) = BAD_VALUE");
        Sentence.of(27, "slot: 0 or 1").holds("both", "save(1) = 0; addTarget(LIBRARY,1) = 0; save(0) = 1; "
                        + "restore(1) = 0; restore(0) = 1")
                .refuses("neither -1 nor 2", States.FULL, "restore(-1) = BAD_VALUE; restore(2) = BAD_VALUE");
        Sentence.of(26, "BAD_VALUE if the slot does not exist")
                .refuses("one below, one above, and far off", States.SMALL, States.each("save(?) = BAD_VALUE", NO_SLOT))
                .refuses("while both are saved", States.FULL, "save(-1) = BAD_VALUE; save(2) = BAD_VALUE")
                .refuses("of a new object", States.NEW, "save(-1) = BAD_VALUE; save(2) = BAD_VALUE");
        Sentence.of(27, "BAD_VALUE if the slot does not exist")
                .refuses("one below, one above, and far off", States.SMALL, States.each("restore(?) = BAD_VALUE", NO_SLOT))
                .refuses("while both are saved", States.FULL, "restore(-1) = BAD_VALUE; restore(2) = BAD_VALUE")
                .refuses("of a new object", States.NEW, "restore(-1) = BAD_VALUE; restore(2) = BAD_VALUE");
        Sentence.of(27, "NOT_SAVED if nothing was saved in it")
                .refuses("in neither", States.NEW, "restore(0) = NOT_SAVED; restore(1) = NOT_SAVED")
                .refuses("in the other one", States.SMALL, "restore(1) = NOT_SAVED")
                .refuses("in the other one", "addTarget(TEST,1) = 0; save(1) = 1;", "restore(0) = NOT_SAVED")
                .refuses("by a refused call", "addTarget(TEST,1) = 0; save(2) = BAD_VALUE; save(-1) = BAD_VALUE;",
                        "restore(0) = NOT_SAVED; restore(1) = NOT_SAVED")
                .holds("not if a state without anything was saved", "save(0) = 0; restore(0) = 0; "
                        + "restore(1) = NOT_SAVED; save(1) = 0; restore(1) = 0")
                .holds("also behind a restored state in which nothing was saved", "save(0) = 0; save(1) = 0; "
                        + "restore(0) = 0; restore(1) = 0");
    }

    private static void save() {
        Sentence.of(26, "Returns the number of targets")
                .holds("none", "save(0) = 0; save(1) = 0")
                .holds("one", "addTarget(TEST,1) = 0; save(0) = 1")
                .holds("twenty", States.twentyTargets(), "save(0) = 20; save(1) = 20")
                .holds("of now", States.twentyTargets(), "save(0) = 20; restore(0) = 20; save(1) = 20")
                .holds("fewer than was saved there", "save(1) = 0", States.twentyTargets(), "save(0) = 20; "
                        + "restore(1) = 0; save(0) = 0; restore(0) = 0");
        Sentence.of(27, "Returns the number of targets after restoring")
                .holds("none, of twenty before", "save(0) = 0", States.twentyTargets(), "restore(0) = 0; targetCount() = 0")
                .holds("twenty, of none before", "save(0) = 0", States.twentyTargets(), "save(1) = 20; restore(0) = 0; "
                        + "restore(1) = 20; targetCount() = 20")
                .holds("as many as before", "addTarget(TEST,1) = 0; save(0) = 1; restore(0) = 1");
    }

    /** What later calls show behind save, other changes and restore is what they show without these changes. */
    private static void whatIsSaved() {
        Sentence complete = Sentence.of(26, "Saves the complete state, except for the saved states, in a slot, and "
                + "overwrites what was saved there");
        Sentence back = Sentence.of(27, "Restores the state that was saved last in a slot");
        for (String slot : new String[] {"0", "1"}) {
            String save = "save(" + slot + ") = 5;";
            String restore = "restore(" + slot + ") = 5;";
            sameAs(complete, "the complete state, slot " + slot, States.SMALL + save, OTHERWISE + restore);
            sameAs(back, "whatever was changed, slot " + slot, States.SMALL + save,
                    OTHERWISE + "clearChanges() = 6;" + restore);
            sameAs(back, "nothing was changed, slot " + slot, States.SMALL + save, restore);
            // A larger state was in the slot, of which nothing may be left.
            String other = "(" + (slot.equals("0") ? "1" : "0") + ") = 5;";
            sameAs(complete, "overwrites, slot " + slot, small() + "save" + other + save,
                    OTHERWISE + "save(" + slot + ") = 7; restore" + other + save + OTHERWISE + restore);
        }
        // Two states that were built one behind the other, in both orders.
        String one = small() + "save(0) = 5; restore(1) = 0;" + MIRROR + "save(1) = 6;";
        String other = MIRROR + "save(1) = 6; restore(0) = 0;" + small() + "save(0) = 5;";
        sameBehind(back, "another state has the same numbers, slot 0", "save(1) = 0;" + one + "restore(0) = 5;",
                "save(0) = 0;" + other);
        sameBehind(back, "another state has the same numbers, slot 1", "save(0) = 0;" + other + "restore(1) = 6;",
                "save(1) = 0;" + one);
        for (int times = 1; times <= 3; times++) {
            complete.holds("saving leaves the state", States.SMALL, "save(1) = 5;".repeat(times),
                    "directlyChanged(1) = 2; changed(1) = 27; nameOf(2) = 14; targetCount() = 5");
        }
        sameAs(back, "a full state over an empty one", States.FULL.replace("save(0) = 20;", "") + "save(0) = 20;",
                "restore(1) = 0; restore(0) = 20;");
        complete.holds("except for the saved states", "save(0) = 0; addTarget(LIBRARY,1) = 0; save(1) = 1; "
                + "restore(0) = 0; restore(1) = 1; addTarget(LIBRARY,1) = 1; save(0) = 2; restore(1) = 1; restore(0) = 2");
        complete.holds("overwrites one slot alone", "addTarget(LIBRARY,1) = 0; save(0) = 1; save(1) = 1; "
                + "addTarget(LIBRARY,1) = 1; save(0) = 2; restore(1) = 1; targetCount() = 1; restore(0) = 2; "
                + "targetCount() = 2");
        complete.holds("a refused call overwrites nothing", "addTarget(LIBRARY,1) = 0; save(0) = 1; "
                + "addTarget(LIBRARY,1) = 1; save(2) = BAD_VALUE; restore(0) = 1");
    }

    private static void restore() {
        Sentence keeps = Sentence.of(27, "The slot keeps it");
        sameAs(keeps, "restored again and again", States.SMALL + "save(1) = 5;",
                OTHERWISE + "restore(1) = 5;" + OTHERWISE + "restore(1) = 5; restore(1) = 5;");
        keeps.holds("though the restored state is changed", "addTarget(LIBRARY,1) = 0; addFile(0,true,5) = 0; "
                + "save(0) = 1; restore(0) = 1; rename(0,6) = 5; deleteFile(0) = 6; addTarget(LIBRARY,1) = 1; "
                + "clearChanges() = 1; restore(0) = 1; nameOf(0) = 5; follow(6) = NONE; clearChanges() = 1");
        keeps.holds("though the other one is restored", "save(0) = 0; addTarget(LIBRARY,1) = 0; save(1) = 1; "
                + "restore(0) = 0; restore(0) = 0; restore(1) = 1; restore(1) = 1; restore(0) = 0");
        keeps.holds("the state of then, not what was done since", "save(0) = 0; addTarget(TEST,9) = 0; "
                + "addFile(0,false,99) = 0; restore(0) = 0; addTarget(LIBRARY,8) = 0; addFile(0,true,99) = 0; "
                + "directlyChanged(0) = 1; directlyChanged(1) = 0; affectedTests() = 0; impact(0,0) = 8; restore(0) = 0; "
                + "follow(99) = NONE");
    }

    private static String small() {
        return States.SMALL.replace("save(0) = 5\n", "");
    }

    /** More calls change nothing in the end. */
    private static void sameAs(Sentence sentence, String which, String before, String more) {
        sameBehind(sentence, which, before + more, before);
    }

    private static void sameBehind(Sentence sentence, String which, String calls, String others) {
        sentence.holds(which, calls);
        sentence.holds(which, others);
        sentence.same(which, Sentence.callsOf(calls), Sentence.callsOf(others));
    }
}
