import java.util.Map;

/** Promises 6 to 14, and what the description says of files, names and the change set. */
final class FileBoundaries {
    private static final int ALL = Document.DESCRIPTION;
    private static final String NO_FILE = "NO_SUCH_FILE if there is no such existing file";

    /** The calls that ask for an existing file, by their promises; file 2 of SMALL had the name 12. */
    private static final Map<Integer, String> OF_A_FILE = Map.of(7, "edit(?)", 8, "rename(?,12)", 9, "move(?,4)",
            10, "deleteFile(?)", 11, "targetOf(?)", 12, "nameOf(?)");

    /** A library, a generator and a test with a header and a source each; the change set is empty. */
    private static final String SIX_FILES = """
            addTarget(LIBRARY,1) = 0
            addTarget(GENERATOR,1) = 1
            addTarget(TEST,1) = 2
            addFile(0,true,10) = 0
            addFile(0,false,11) = 1
            addFile(1,true,20) = 2
            addFile(1,false,21) = 3
            addFile(2,true,30) = 4
            addFile(2,false,31) = 5
            clearChanges() = 6
            """;

    private FileBoundaries() {
    }

    static void test() {
        for (int promise = 7; promise <= 12; promise++) {
            Sentence.withoutBoundary(promise, "file: number of the file");
        }
        Sentence.withoutBoundary(6, "target: the target to which it belongs");
        Sentence.withoutBoundary(8, "Renames a file");
        Sentence.withoutBoundary(9, "target: new target");
        numbersOfFiles();
        theRangeOfNames();
        whatAnExistingFileIs();
        namesInUse();
        targetsOfNewFiles();
        fortyFiles();
        noSuchFile();
        touching();
        edit();
        rename();
        move();
        deleteFile();
        targetAndName();
        lastOwner();
        theChangeSet();
    }

    private static void numbersOfFiles() {
        Sentence.of(ALL, "There are up to 40 files, numbered from 0 in the order in which they were added")
                .holds("0 to 39", States.twentyTargets(), States.fortyFiles(), "targetOf(0) = 0; targetOf(39) = 19; "
                        + "nameOf(0) = 0; nameOf(39) = 39; targetOf(40) = NO_SUCH_FILE; nameOf(40) = NO_SUCH_FILE; "
                        + "targetOf(-1) = NO_SUCH_FILE")
                .refuses("not one more", States.twentyTargets() + States.fortyFiles(), "addFile(0,true,40) = TOO_MANY");
        Sentence.of(ALL, "Numbers of deleted files are not used again, and deleted files count among the 40")
                .holds("not the last", SIX_FILES, "deleteFile(5) = 31; addFile(2,false,31) = 6; "
                        + "targetOf(5) = NO_SUCH_FILE; nameOf(6) = 31")
                .holds("not the first", SIX_FILES, "deleteFile(0) = 10; addFile(0,true,10) = 6; "
                        + "targetOf(0) = NO_SUCH_FILE; targetOf(6) = 0")
                .holds("not if all are deleted", "addTarget(LIBRARY,1) = 0; addFile(0,true,0) = 0; deleteFile(0) = 0; "
                        + "addFile(0,true,0) = 1; deleteFile(1) = 0; addFile(0,true,0) = 2")
                .refuses("forty of which two are deleted", States.FULL, "addFile(0,true,5) = TOO_MANY; "
                        + "addFile(19,false,39) = TOO_MANY");
        StringBuilder one = new StringBuilder("addTarget(LIBRARY,1) = 0;");
        for (int f = 0; f < 40; f++) {
            one.append("addFile(0,true,7) = " + f + "; deleteFile(" + f + ") = 7;");
        }
        Sentence.of(ALL, "Numbers of deleted files are not used again, and deleted files count among the 40")
                .refuses("forty that are all deleted", one.toString(), "addFile(0,true,7) = TOO_MANY; "
                        + "addFile(0,false,8) = TOO_MANY");
        Sentence.of(6, "Returns the number of the file").holds("from 0 on, a refused one takes none", """
                addTarget(LIBRARY,1) = 0
                addFile(1,true,0) = NO_SUCH_TARGET
                addFile(0,true,100) = BAD_VALUE
                addFile(0,true,5) = 0
                addFile(0,true,5) = NAME_IN_USE
                addFile(0,true,-1) = BAD_VALUE
                addFile(0,true,6) = 1
                deleteFile(1) = 6
                addFile(0,true,6) = 2
                """);
    }

    private static void theRangeOfNames() {
        Sentence.of(6, "name: 0 to 99").holds("the first and the last", "addTarget(LIBRARY,1) = 0; "
                + "addFile(0,true,0) = 0; addFile(0,true,99) = 1; nameOf(0) = 0; nameOf(1) = 99; follow(0) = 0; "
                + "follow(99) = 1");
        Sentence.of(6, "BAD_VALUE if the name is out of range")
                .refuses("one below, one above, and far off", States.SMALL, States.each("addFile(4,true,?) = BAD_VALUE",
                        -1, -100, 100, 101, 128, 256))
                .refuses("of a source", States.SMALL, "addFile(4,false,-1) = BAD_VALUE; addFile(4,false,100) = BAD_VALUE");
        Sentence.of(8, "name: new name, 0 to 99").holds("the first and the last", SIX_FILES, "rename(0,0) = 10; "
                + "rename(1,99) = 11; nameOf(0) = 0; nameOf(1) = 99; rename(0,1) = 0; rename(0,98) = 1");
        Sentence.of(8, "BAD_VALUE if the name is out of range")
                .refuses("one below, one above, and far off", States.SMALL, States.each("rename(0,?) = BAD_VALUE", -1,
                        -100, 100, 101, 128, 256))
                .refuses("of a source", States.SMALL, "rename(1,-1) = BAD_VALUE; rename(1,100) = BAD_VALUE");
        Sentence.of(13, "name: 0 to 99").holds("the first and the last", "follow(0) = NONE; follow(99) = NONE; "
                + "addTarget(TEST,1) = 0; addFile(0,false,99) = 0; addFile(0,false,0) = 1; follow(0) = 1; "
                + "follow(99) = 0; follow(1) = NONE; follow(98) = NONE");
        Sentence.of(13, "BAD_VALUE if the name is out of range")
                .refuses("one below, one above, and far off", States.SMALL, States.each("follow(?) = BAD_VALUE", -1,
                        -10, 100, 101, 128, 256))
                .refuses("without files", States.NEW, "follow(-1) = BAD_VALUE; follow(100) = BAD_VALUE");
    }

    private static void whatAnExistingFileIs() {
        Sentence.of(ALL, "An existing file belongs to a target, is a header or a source, and has a name, which is a "
                        + "number from 0 to 99")
                .holds("0 and 99", States.twentyTargets(), "addFile(0,true,0) = 0; addFile(19,false,99) = 1; "
                        + "targetOf(0) = 0; targetOf(1) = 19; nameOf(0) = 0; nameOf(1) = 99; directlyChanged(0) = 1; "
                        + "directlyChanged(1) = 524288")
                .refuses("one below and one above", SIX_FILES, "addFile(0,true,-1) = BAD_VALUE; "
                        + "addFile(0,true,100) = BAD_VALUE; rename(0,-1) = BAD_VALUE; rename(0,100) = BAD_VALUE")
                .refuses("a deleted one has none of these", SIX_FILES + "deleteFile(0) = 10; clearChanges() = 1;",
                        "targetOf(0) = NO_SUCH_FILE; nameOf(0) = NO_SUCH_FILE; edit(0) = NO_SUCH_FILE");
        Sentence.of(6, "header: true for a header, false for a source")
                .holds("true", "addTarget(LIBRARY,1) = 0; addFile(0,true,0) = 0; directlyChanged(0) = 1; "
                        + "directlyChanged(1) = 0; clearChanges() = 1; edit(0) = 0; directlyChanged(0) = 1; "
                        + "directlyChanged(1) = 0")
                .holds("false", "addTarget(LIBRARY,1) = 0; addFile(0,false,0) = 0; directlyChanged(0) = 0; "
                        + "directlyChanged(1) = 1; clearChanges() = 1; edit(0) = 0; directlyChanged(0) = 0; "
                        + "directlyChanged(1) = 1");
    }

    private static void namesInUse() {
        Sentence.of(ALL, "Two existing files have different names")
                .refuses("neither of one target nor of two", SIX_FILES, """
                        addFile(0,true,10) = NAME_IN_USE
                        addFile(0,false,10) = NAME_IN_USE
                        addFile(2,true,10) = NAME_IN_USE
                        rename(1,10) = NAME_IN_USE
                        rename(5,10) = NAME_IN_USE
                        """)
                .holds("a deleted one has none", SIX_FILES, "deleteFile(0) = 10; addFile(2,false,10) = 6; "
                        + "addFile(0,true,10) = NAME_IN_USE; deleteFile(6) = 10; rename(5,10) = 31");
        Sentence.of(6, "NAME_IN_USE if an existing file has that name")
                .refuses("of every file", SIX_FILES, "addFile(1,true,10) = NAME_IN_USE; addFile(1,false,31) = NAME_IN_USE")
                .refuses("0 and 99", SIX_FILES + "rename(1,0) = 11; rename(3,99) = 21;",
                        "addFile(0,true,0) = NAME_IN_USE; addFile(0,true,99) = NAME_IN_USE")
                .refuses("by a rename", States.SMALL, "addFile(4,true,14) = NAME_IN_USE; addFile(4,false,14) = NAME_IN_USE")
                .holds("no file has it now", SIX_FILES, """
                        rename(1,50) = 11
                        addFile(2,true,11) = 6           # renamed
                        deleteFile(3) = 21
                        addFile(2,true,21) = 7           # deleted
                        rename(4,51) = 30
                        deleteFile(4) = 51
                        addFile(2,true,30) = 8           # renamed, then deleted
                        addFile(2,true,51) = 9
                        addFile(2,true,50) = NAME_IN_USE
                        addFile(2,true,11) = NAME_IN_USE
                        """);
        Sentence.of(8, "NAME_IN_USE if an existing file has that name (also this file)")
                .refuses("this file", SIX_FILES, "rename(0,10) = NAME_IN_USE; rename(1,11) = NAME_IN_USE; "
                        + "rename(5,31) = NAME_IN_USE")
                .refuses("another file", SIX_FILES, "rename(0,11) = NAME_IN_USE; rename(1,10) = NAME_IN_USE; "
                        + "rename(0,31) = NAME_IN_USE")
                .refuses("by a rename", States.SMALL, "rename(0,14) = NAME_IN_USE; rename(2,14) = NAME_IN_USE")
                .holds("no file has it now", SIX_FILES, """
                        rename(1,50) = 11
                        rename(1,11) = 50                # the file's own name of before
                        rename(1,50) = 11
                        rename(3,11) = 21                # another's name of before
                        deleteFile(5) = 31
                        rename(3,31) = 11                # the name of a deleted file
                        rename(3,50) = NAME_IN_USE
                        rename(1,31) = NAME_IN_USE
                        rename(1,11) = 50
                        """);
    }

    private static void targetsOfNewFiles() {
        Sentence.of(6, "NO_SUCH_TARGET if the target does not exist")
                .refuses("one below, one above, and far off", States.SMALL,
                        States.each("addFile(?,true,50) = NO_SUCH_TARGET", -1, 5, 19, 20, 32, 33, -32, 1073741824))
                .refuses("a name that a file had", States.SMALL, "addFile(5,true,12) = NO_SUCH_TARGET; "
                        + "addFile(-1,false,13) = NO_SUCH_TARGET")
                .refuses("there is none", States.NEW, "addFile(0,true,0) = NO_SUCH_TARGET; "
                        + "addFile(0,false,0) = NO_SUCH_TARGET")
                .refuses("behind the twentieth", States.twentyTargets(), "addFile(20,true,0) = NO_SUCH_TARGET; "
                        + "addFile(-1,false,0) = NO_SUCH_TARGET")
                .holds("the first and the last exist", States.twentyTargets(), "addFile(0,true,0) = 0; "
                        + "addFile(19,true,1) = 1; targetOf(1) = 19");
        Sentence.of(9, "NO_SUCH_TARGET if the target does not exist")
                .refuses("one below, one above, and far off", States.SMALL, States.each("move(0,?) = NO_SUCH_TARGET",
                        -1, 5, 19, 20, 32, 33, -32, 1073741824))
                .refuses("behind the twentieth", States.twentyTargets() + "addFile(0,true,0) = 0; clearChanges() = 1;",
                        "move(0,20) = NO_SUCH_TARGET; move(0,-1) = NO_SUCH_TARGET")
                .holds("the first and the last exist", States.twentyTargets(), "addFile(0,true,0) = 0; move(0,19) = 0; "
                        + "move(0,0) = 19");
    }

    private static void fortyFiles() {
        String full = States.twentyTargets() + States.fortyFiles();
        Sentence.of(6, "TOO_MANY if 40 files were added")
                .holds("the fortieth", full, "nameOf(39) = 39; addFile(0,true,40) = TOO_MANY; follow(40) = NONE")
                .refuses("forty that exist", full + "clearChanges() = 40;", "addFile(0,true,40) = TOO_MANY; "
                        + "addFile(19,false,99) = TOO_MANY")
                .refuses("two of them deleted", States.FULL, "addFile(0,true,5) = TOO_MANY; "
                        + "addFile(0,false,40) = TOO_MANY; addFile(19,true,39) = TOO_MANY")
                .holds("a rename adds none", "addTarget(LIBRARY,1) = 0; addFile(0,true,0) = 0; rename(0,1) = 0; "
                        + "rename(0,2) = 1; addFile(0,true,0) = 1");
    }

    private static void noSuchFile() {
        for (int promise : OF_A_FILE.keySet()) {
            String refused = OF_A_FILE.get(promise) + " = NO_SUCH_FILE";
            Sentence.of(promise, NO_FILE)
                    .refuses("there is none", States.NEW, States.each(refused, -1, 0, 1, 39))
                    .refuses("one below, one above, and far off", States.SMALL, States.each(refused, -1, 4, 39, 40, 64,
                            256, -32))
                    .refuses("it is deleted", States.SMALL, refused.replace("?", "3"))
                    .refuses("forty, two of them deleted", States.FULL, refused.replace("?",
                            "40") + ";" + refused.replace("?", "39")
                            + ";" + refused.replace("?", "5"));
        }
        Sentence.of(7, NO_FILE).holds("the first and the last exist", States.FULL, "edit(0) = 0; edit(38) = 18");
        Sentence.of(8, NO_FILE).holds("the first and the last exist", States.FULL, "rename(0,50) = 0; rename(38,51) = 38");
        Sentence.of(9, NO_FILE).holds("the first and the last exist", States.FULL, "move(0,1) = 0; move(38,1) = 18");
        Sentence.of(10, NO_FILE).holds("the first and the last exist", States.FULL, "deleteFile(0) = 0; "
                + "deleteFile(38) = 38; deleteFile(0) = NO_SUCH_FILE; deleteFile(38) = NO_SUCH_FILE");
        Sentence.of(11, NO_FILE).leaves("the first and the last exist", States.FULL, "targetOf(0) = 0; targetOf(38) = 18");
        Sentence.of(12, NO_FILE).leaves("the first and the last exist", States.FULL, "nameOf(0) = 0; nameOf(38) = 38");
    }

    private static void touching() {
        Sentence.of(ALL, "To touch a target by a file means to add the target with INTERFACE_PART if the file is a "
                        + "header, with BODY_PART if it is a source")
                .holds("a header", SIX_FILES, "edit(2) = 1; directlyChanged(0) = 2; directlyChanged(1) = 0; "
                        + "clearChanges() = 1")
                .holds("a source", SIX_FILES, "edit(3) = 1; directlyChanged(0) = 0; directlyChanged(1) = 2; "
                        + "clearChanges() = 1")
                .holds("what was there stays", SIX_FILES, "edit(0) = 0; edit(3) = 1; edit(4) = 2; "
                        + "directlyChanged(0) = 5; directlyChanged(1) = 2; clearChanges() = 3");
        Sentence.of(6, "Adds a file and touches its target by it")
                .holds("a header", SIX_FILES, "addFile(1,true,0) = 6; directlyChanged(0) = 2; directlyChanged(1) = 0; "
                        + "targetOf(6) = 1; nameOf(6) = 0")
                .holds("a source", SIX_FILES, "addFile(2,false,0) = 6; directlyChanged(0) = 0; directlyChanged(1) = 4; "
                        + "targetOf(6) = 2; nameOf(6) = 0")
                .holds("the first and the last target", States.twentyTargets(), "addFile(0,true,0) = 0; "
                        + "addFile(19,true,1) = 1; directlyChanged(0) = 524289; addFile(0,false,2) = 2; "
                        + "addFile(19,false,3) = 3; directlyChanged(1) = 524289")
                .holds("the fortieth file", States.twentyTargets(),
                        States.fortyFiles().replace("addFile(19,false,39) = 39;", "clearChanges() = 39;"),
                        "addFile(19,false,39) = 39; directlyChanged(0) = 0; directlyChanged(1) = 524288");
    }

    private static void edit() {
        Sentence.of(7, "Edits a file: touches its target by it")
                .holds("a header", SIX_FILES, "edit(4) = 2; directlyChanged(0) = 4; directlyChanged(1) = 0; "
                        + "clearChanges() = 1")
                .holds("a source", SIX_FILES, "edit(5) = 2; directlyChanged(0) = 0; directlyChanged(1) = 4; "
                        + "clearChanges() = 1")
                .holds("twice", SIX_FILES, "edit(0) = 0; edit(0) = 0; directlyChanged(0) = 1; clearChanges() = 1")
                .holds("only the target that it has now", SIX_FILES, "move(0,2) = 0; clearChanges() = 2; edit(0) = 2; "
                        + "directlyChanged(0) = 4; clearChanges() = 1");
        Sentence.of(7, "Returns the target")
                .holds("the first and the last", States.twentyTargets(), "addFile(0,true,0) = 0; "
                        + "addFile(19,false,1) = 1; edit(0) = 0; edit(1) = 19")
                .holds("behind a move", SIX_FILES, "move(0,2) = 0; edit(0) = 2; move(0,1) = 2; edit(0) = 1");
    }

    private static void rename() {
        Sentence.of(8, "If it is a header, its target is touched by it")
                .holds("the target of now", SIX_FILES, "rename(2,50) = 20; directlyChanged(0) = 2; "
                        + "directlyChanged(1) = 0; clearChanges() = 1; move(2,0) = 1; clearChanges() = 2; "
                        + "rename(2,51) = 50; directlyChanged(0) = 1; clearChanges() = 1")
                .holds("not if it is refused", SIX_FILES, "rename(2,20) = NAME_IN_USE; rename(2,100) = BAD_VALUE; "
                        + "clearChanges() = 0");
        Sentence.of(8, "if it is a source, nothing is touched")
                .holds("neither part", SIX_FILES, "rename(3,50) = 21; directlyChanged(0) = 0; directlyChanged(1) = 0; "
                        + "clearChanges() = 0; nameOf(3) = 50")
                .holds("what is touched stays", SIX_FILES, "edit(3) = 1; edit(0) = 0; rename(3,50) = 21; "
                        + "directlyChanged(0) = 1; directlyChanged(1) = 2; clearChanges() = 2");
        Sentence.of(8, "Returns the previous name").holds("0 and 99, of a header and a source", SIX_FILES, """
                rename(0,0) = 10
                rename(0,99) = 0
                rename(0,10) = 99
                rename(1,0) = 11
                rename(1,99) = 0
                rename(1,99) = NAME_IN_USE
                rename(1,98) = 99
                """);
    }

    private static void move() {
        Sentence.of(9, "Moves a file to another target")
                .holds("the first, the last and back", States.twentyTargets(), "addFile(0,false,7) = 0; move(0,19) = 0; "
                        + "targetOf(0) = 19; nameOf(0) = 7; follow(7) = 0; move(0,0) = 19; targetOf(0) = 0; "
                        + "addFile(0,true,8) = 1");
        Sentence.of(9, "Both targets are touched by it")
                .holds("a header", SIX_FILES, "move(0,2) = 0; directlyChanged(0) = 5; directlyChanged(1) = 0; "
                        + "clearChanges() = 2")
                .holds("a source", SIX_FILES, "move(1,2) = 0; directlyChanged(0) = 0; directlyChanged(1) = 5; "
                        + "clearChanges() = 2")
                .holds("one was touched before", SIX_FILES, "edit(0) = 0; move(0,1) = 0; directlyChanged(0) = 3; "
                        + "clearChanges() = 2")
                .holds("not if it is refused", SIX_FILES, "move(0,0) = SAME_TARGET; move(0,3) = NO_SUCH_TARGET; "
                        + "clearChanges() = 0");
        Sentence.of(9, "Returns the previous target").holds("the first and the last", States.twentyTargets(),
                "addFile(19,true,0) = 0; move(0,0) = 19; move(0,19) = 0; move(0,19) = SAME_TARGET; move(0,1) = 19");
        Sentence.of(9, "SAME_TARGET if the file belongs to it already")
                .refuses("since it was added", SIX_FILES, "move(0,0) = SAME_TARGET; move(1,0) = SAME_TARGET; "
                        + "move(5,2) = SAME_TARGET")
                .refuses("since it was moved", SIX_FILES + "move(0,2) = 0; clearChanges() = 2;", "move(0,2) = SAME_TARGET")
                .holds("not the one of before", SIX_FILES, "move(0,2) = 0; move(0,0) = 2; move(0,0) = SAME_TARGET");
    }

    private static void deleteFile() {
        Sentence.of(10, "Deletes a file")
                .holds("once", SIX_FILES, "deleteFile(0) = 10; deleteFile(0) = NO_SUCH_FILE; targetOf(0) = NO_SUCH_FILE; "
                        + "nameOf(0) = NO_SUCH_FILE; edit(0) = NO_SUCH_FILE; rename(0,50) = NO_SUCH_FILE; "
                        + "move(0,1) = NO_SUCH_FILE; follow(10) = NONE")
                .holds("no other", SIX_FILES, "deleteFile(2) = 20; targetOf(1) = 0; targetOf(3) = 1; nameOf(1) = 11; "
                        + "nameOf(3) = 21");
        Sentence.of(10, "Its target is touched by it")
                .holds("a header", SIX_FILES, "deleteFile(4) = 30; directlyChanged(0) = 4; directlyChanged(1) = 0; "
                        + "clearChanges() = 1")
                .holds("a source", SIX_FILES, "deleteFile(5) = 31; directlyChanged(0) = 0; directlyChanged(1) = 4; "
                        + "clearChanges() = 1")
                .holds("the target of now", SIX_FILES, "move(0,2) = 0; clearChanges() = 2; deleteFile(0) = 10; "
                        + "directlyChanged(0) = 4; clearChanges() = 1")
                .holds("not twice", SIX_FILES, "deleteFile(4) = 30; clearChanges() = 1; deleteFile(4) = NO_SUCH_FILE; "
                        + "clearChanges() = 0");
        Sentence.of(10, "Returns its name").holds("0, 99 and the name of now", SIX_FILES, "rename(0,0) = 10; "
                + "rename(1,99) = 11; rename(2,50) = 20; deleteFile(0) = 0; deleteFile(1) = 99; deleteFile(2) = 50; "
                + "deleteFile(3) = 21");
    }

    private static void targetAndName() {
        Sentence.of(11, "Returns the target of a file").leaves("touches nothing", SIX_FILES, "targetOf(0) = 0; "
                + "targetOf(3) = 1; targetOf(5) = 2");
        Sentence.of(11, "Returns the target").holds("the first, the last, and the one of now", States.twentyTargets(),
                "addFile(19,true,0) = 0; addFile(0,false,1) = 1; targetOf(0) = 19; targetOf(1) = 0; move(0,0) = 19; "
                + "targetOf(0) = 0; move(0,5) = 0; targetOf(0) = 5; targetOf(1) = 0");
        Sentence.of(12, "Returns the name of a file").leaves("touches nothing", SIX_FILES, "nameOf(0) = 10; "
                + "nameOf(3) = 21; nameOf(5) = 31");
        Sentence.of(12, "Returns the name").holds("0, 99, and the one of now", SIX_FILES, "rename(0,0) = 10; "
                + "nameOf(0) = 0; rename(0,99) = 0; nameOf(0) = 99; rename(0,99) = NAME_IN_USE; nameOf(0) = 99; "
                + "nameOf(1) = 11; move(0,1) = 0; nameOf(0) = 99");
    }

    private static void lastOwner() {
        Sentence.of(ALL, "The last owner of a name is the file that has the name now, or otherwise the file that got "
                        + "this name last (by addFile or rename)")
                .holds("the file that has it now", SIX_FILES, "follow(10) = 0; rename(1,50) = 11; follow(50) = 1; "
                        + "rename(0,11) = 10; follow(11) = 0")
                .holds("got last by addFile", SIX_FILES, "rename(0,50) = 10; follow(10) = 0; addFile(2,false,10) = 6; "
                        + "rename(6,51) = 10; follow(10) = 6; follow(50) = 0")
                .holds("got last by rename", SIX_FILES, "rename(0,50) = 10; rename(1,10) = 11; rename(1,51) = 10; "
                        + "follow(10) = 1; follow(11) = 1; follow(51) = 1")
                .holds("got again by the first", SIX_FILES, "rename(0,50) = 10; rename(1,10) = 11; rename(1,51) = 10; "
                        + "rename(0,10) = 50; rename(0,52) = 10; follow(10) = 0; follow(50) = 0; follow(52) = 0")
                .holds("a refused call gives no name", SIX_FILES, "rename(0,50) = 10; "
                        + "addFile(3,true,10) = NO_SUCH_TARGET; rename(6,10) = NO_SUCH_FILE; follow(10) = 0; "
                        + "rename(1,50) = NAME_IN_USE; follow(50) = 0");
        Sentence.of(13, "Follows renames: returns the last owner of a name")
                .holds("over many renames", SIX_FILES, "rename(0,50) = 10; rename(0,51) = 50; rename(0,52) = 51; "
                        + "rename(0,0) = 52; rename(0,99) = 0; follow(10) = 0; follow(50) = 0; follow(51) = 0; "
                        + "follow(52) = 0; follow(0) = 0; follow(99) = 0; follow(11) = 1")
                .holds("a move changes nothing", SIX_FILES, "rename(0,50) = 10; move(0,2) = 0; follow(10) = 0; "
                        + "follow(50) = 0")
                .leaves("touches nothing", SIX_FILES, "follow(10) = 0; follow(31) = 5");
        Sentence.of(13, "Returns the number of the file").holds("the first and the last", States.twentyTargets(),
                States.fortyFiles(),
                "follow(0) = 0; follow(39) = 39; rename(39,99) = 39; follow(99) = 39; follow(39) = 39; rename(0,39) = 0; "
                + "follow(39) = 0; follow(0) = 0");
        Sentence.of(13, "NONE if no file ever had that name, or its last owner has been deleted")
                .leaves("no file ever", SIX_FILES, "follow(0) = NONE; follow(99) = NONE; follow(12) = NONE")
                .leaves("no file", States.NEW, "follow(0) = NONE; follow(99) = NONE")
                .leaves("refused ones never had it", SIX_FILES + "addFile(3,true,50) = NO_SUCH_TARGET; "
                        + "rename(6,50) = NO_SUCH_FILE;", "follow(50) = NONE")
                .leaves("it had the name when it was deleted", SIX_FILES + "deleteFile(0) = 10;", "follow(10) = NONE")
                .leaves("it had another name then", SIX_FILES + "rename(0,50) = 10; deleteFile(0) = 50;",
                        "follow(10) = NONE; follow(50) = NONE")
                .leaves("an owner before it exists still", SIX_FILES + "rename(0,50) = 10; rename(1,10) = 11; "
                        + "deleteFile(1) = 10;",
                        "follow(10) = NONE; follow(11) = NONE; follow(50) = 0")
                .holds("got again behind the deleted one", SIX_FILES, "deleteFile(0) = 10; follow(10) = NONE; "
                        + "addFile(0,true,10) = 6; follow(10) = 6; deleteFile(6) = 10; follow(10) = NONE; "
                        + "rename(5,10) = 31; follow(10) = 5; rename(5,31) = 10; follow(10) = 5")
                .holds("an owner before it was deleted", SIX_FILES, "rename(0,50) = 10; rename(1,10) = 11; "
                        + "deleteFile(0) = 50; follow(10) = 1; follow(50) = NONE");
    }

    private static void theChangeSet() {
        Sentence.of(ALL, "The change set is a set of pairs of a target and a part, which are directly changed")
                .holds("a pair is in it once", SIX_FILES, "edit(0) = 0; edit(0) = 0; addFile(0,true,50) = 6; "
                        + "rename(0,51) = 10; deleteFile(6) = 50; directlyChanged(0) = 1; directlyChanged(1) = 0; "
                        + "clearChanges() = 1")
                .holds("two parts are two pairs", SIX_FILES, "edit(0) = 0; edit(1) = 0; directlyChanged(0) = 1; "
                        + "directlyChanged(1) = 1; clearChanges() = 2");
        Sentence.of(ALL, "Initially it is empty")
                .holds("at once", "clearChanges() = 0")
                .holds("until a file is there", States.twentyTargets(), States.sixtyDependencies(),
                        "directlyChanged(0) = 0; directlyChanged(1) = 0; clearChanges() = 0");
        Sentence adding = Sentence.of(ALL, "The methods addFile, edit, rename, move and deleteFile add pairs to it as "
                + "told there");
        adding.holds("each of them", SIX_FILES, "addFile(0,true,50) = 6; clearChanges() = 1; edit(0) = 0; "
                + "clearChanges() = 1; rename(0,51) = 10; clearChanges() = 1; move(0,1) = 0; clearChanges() = 2; "
                + "deleteFile(0) = 51; clearChanges() = 1");
        String others = """
                addTarget(LIBRARY,1) = 3
                targetCount() = 4
                addDependency(0,1,GENERATED) = 1
                removeDependency(0,1) = GENERATED
                rename(1,50) = 11
                targetOf(0) = 0
                nameOf(0) = 10
                follow(10) = 0
                directlyChanged(0) = 0
                changed(1) = 0
                affectedTests() = 0
                chain(0,0,0) = NONE
                impact(0,0) = 1
                mostCritical(0) = 0
                rebuildOrder(0) = NONE
                rebuildTime() = 0
                shardOf(2,1) = NONE
                shardLoad(1,0) = 0
                bestGreatestLoad(1) = 0
                save(0) = 4
                save(1) = 4
                restore(0) = 4
                """;
        adding.holds("no other", SIX_FILES, String.join("; clearChanges() = 0;", Script.statements(others)),
                "clearChanges() = 0");
        Sentence.of(14, "Empties the change set")
                .holds("all pairs", States.twentyTargets(), States.fortyFiles(), "clearChanges() = 40; "
                        + "directlyChanged(0) = 0; directlyChanged(1) = 0; changed(0) = 0; changed(1) = 0; "
                        + "affectedTests() = 0; rebuildOrder(-1) = 0; clearChanges() = 0")
                .holds("and nothing else", States.SMALL, "clearChanges() = 1; targetCount() = 5; nameOf(0) = 10; "
                        + "follow(12) = 2; removeDependency(0,1) = GENERATED; addFile(0,true,13) = 4; restore(0) = 5; "
                        + "clearChanges() = 0")
                .leaves("an empty one", SIX_FILES, "clearChanges() = 0")
                .leaves("an empty one", States.NEW, "clearChanges() = 0");
        Sentence.of(14, "returns the number of pairs that were in it")
                .holds("none", "clearChanges() = 0; addTarget(LIBRARY,1) = 0; clearChanges() = 0")
                .holds("one", SIX_FILES, "edit(0) = 0; clearChanges() = 1")
                .holds("one of which others follow", States.SMALL, "changed(0) = 9; changed(1) = 27; clearChanges() = 1")
                .holds("all but one", States.twentyTargets(), States.fortyFiles().replace("addFile(19,false,39) = 39;",
                        ""), "clearChanges() = 39")
                .holds("all forty", States.twentyTargets(), States.fortyFiles(), "clearChanges() = 40");
    }
}
