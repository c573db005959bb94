/** Promises 6 to 13: files, what they touch, and their names. */
public final class FilesTest {
    private static final String THREE = "addTarget(LIBRARY,1) = 0; addTarget(GENERATOR,1) = 1; addTarget(TEST,1) = 2;";

    public static void main(String[] args) {
        addFile();
        fortyFiles();
        edit();
        rename();
        move();
        deleteFile();
        targetAndName();
        follow();
        Script.end();
    }

    private static void addFile() {
        Script.run("6 addFile", THREE, """
                addFile(0,true,0) = 0
                directlyChanged(INTERFACE_PART) = 1
                directlyChanged(BODY_PART) = 0
                addFile(2,false,99) = 1
                directlyChanged(INTERFACE_PART) = 1
                directlyChanged(BODY_PART) = 4
                addFile(3,true,1) = NO_SUCH_TARGET
                addFile(-1,true,1) = NO_SUCH_TARGET
                addFile(MIN,true,MIN) = NO_SUCH_TARGET
                addFile(MAX,false,0) = NO_SUCH_TARGET    # before NAME_IN_USE
                addFile(1,true,-1) = BAD_VALUE
                addFile(1,true,100) = BAD_VALUE
                addFile(1,true,MAX) = BAD_VALUE
                addFile(1,true,0) = NAME_IN_USE
                addFile(1,false,99) = NAME_IN_USE
                directlyChanged(INTERFACE_PART) = 1
                directlyChanged(BODY_PART) = 4
                addFile(1,true,1) = 2
                nameOf(2) = 1
                targetOf(2) = 1
                clearChanges() = 3
                """);
        Script.run("6 without targets", "addFile(0,true,0) = NO_SUCH_TARGET; addFile(0,true,100) = NO_SUCH_TARGET");
    }

    private static void fortyFiles() {
        ChangeImpact x = new ChangeImpact();
        Script.on(x, "6 forty", THREE);
        for (int f = 0; f < 40; f++) {
            Script.on(x, "6 forty", "addFile(" + f % 3 + ",false," + f + ") = " + f);
        }
        Script.on(x, "6 forty", "clearChanges() = 3", """
                addFile(0,false,40) = TOO_MANY
                addFile(0,false,39) = NAME_IN_USE        # before TOO_MANY
                addFile(0,false,100) = BAD_VALUE
                addFile(3,false,40) = NO_SUCH_TARGET
                follow(40) = NONE
                directlyChanged(BODY_PART) = 0
                deleteFile(7) = 7
                addFile(0,false,7) = TOO_MANY            # the deleted ones count
                follow(7) = NONE
                targetOf(39) = 0
                targetOf(40) = NO_SUCH_FILE
                """);
        for (int f = 0; f < 40; f++) {
            if (f != 7) {
                Script.on(x, "6 forty, all deleted", "deleteFile(" + f + ") = " + f);
            }
        }
        Script.on(x, "6 forty, all deleted", "addFile(0,true,0) = TOO_MANY");
    }

    private static void edit() {
        Script.run("7 edit", THREE, """
                addFile(1,true,10) = 0
                addFile(2,false,11) = 1
                clearChanges() = 2
                edit(0) = 1
                directlyChanged(INTERFACE_PART) = 2
                directlyChanged(BODY_PART) = 0
                edit(0) = 1
                edit(1) = 2
                directlyChanged(INTERFACE_PART) = 2
                directlyChanged(BODY_PART) = 4
                clearChanges() = 2
                edit(2) = NO_SUCH_FILE
                edit(-1) = NO_SUCH_FILE
                edit(MIN) = NO_SUCH_FILE
                edit(MAX) = NO_SUCH_FILE
                deleteFile(0) = 10
                clearChanges() = 1
                edit(0) = NO_SUCH_FILE
                clearChanges() = 0
                """);
    }

    private static void rename() {
        Script.run("8 rename", THREE, """
                addFile(0,true,10) = 0
                addFile(1,false,11) = 1
                clearChanges() = 2
                rename(1,12) = 11
                directlyChanged(INTERFACE_PART) = 0      # a source touches nothing
                directlyChanged(BODY_PART) = 0
                nameOf(1) = 12
                rename(0,11) = 10
                directlyChanged(INTERFACE_PART) = 1
                directlyChanged(BODY_PART) = 0
                clearChanges() = 1
                rename(0,11) = NAME_IN_USE               # also this file
                rename(0,12) = NAME_IN_USE
                rename(0,-1) = BAD_VALUE
                rename(0,100) = BAD_VALUE
                rename(0,MIN) = BAD_VALUE
                rename(2,100) = NO_SUCH_FILE             # before BAD_VALUE
                rename(-1,11) = NO_SUCH_FILE             # before NAME_IN_USE
                rename(MAX,0) = NO_SUCH_FILE
                directlyChanged(INTERFACE_PART) = 0
                nameOf(0) = 11
                rename(0,0) = 11
                rename(0,99) = 0
                rename(0,10) = 99
                deleteFile(1) = 12
                rename(1,13) = NO_SUCH_FILE
                rename(0,12) = 10                        # the deleted file's name is free
                targetOf(0) = 0
                """);
    }

    private static void move() {
        Script.run("9 move", THREE, """
                addFile(0,true,10) = 0
                addFile(1,false,11) = 1
                clearChanges() = 2
                move(0,1) = 0
                directlyChanged(INTERFACE_PART) = 3      # both targets
                directlyChanged(BODY_PART) = 0
                targetOf(0) = 1
                nameOf(0) = 10
                clearChanges() = 2
                move(1,2) = 1
                directlyChanged(INTERFACE_PART) = 0
                directlyChanged(BODY_PART) = 6
                clearChanges() = 2
                move(1,2) = SAME_TARGET
                move(1,3) = NO_SUCH_TARGET
                move(1,-1) = NO_SUCH_TARGET
                move(2,3) = NO_SUCH_FILE                 # before NO_SUCH_TARGET
                move(-1,0) = NO_SUCH_FILE
                move(MIN,MIN) = NO_SUCH_FILE
                move(1,MAX) = NO_SUCH_TARGET
                clearChanges() = 0
                targetOf(1) = 2
                deleteFile(1) = 11
                move(1,0) = NO_SUCH_FILE
                move(1,2) = NO_SUCH_FILE                 # before SAME_TARGET
                move(1,3) = NO_SUCH_FILE
                clearChanges() = 1
                move(0,0) = 1
                edit(0) = 0
                follow(10) = 0
                """);
    }

    private static void deleteFile() {
        Script.run("10 deleteFile", THREE, """
                addFile(0,true,10) = 0
                addFile(1,false,11) = 1
                clearChanges() = 2
                deleteFile(2) = NO_SUCH_FILE
                deleteFile(-1) = NO_SUCH_FILE
                deleteFile(MIN) = NO_SUCH_FILE
                deleteFile(MAX) = NO_SUCH_FILE
                clearChanges() = 0
                deleteFile(1) = 11
                directlyChanged(INTERFACE_PART) = 0
                directlyChanged(BODY_PART) = 2
                clearChanges() = 1
                deleteFile(1) = NO_SUCH_FILE
                clearChanges() = 0
                rename(0,12) = 10
                clearChanges() = 1
                deleteFile(0) = 12
                directlyChanged(INTERFACE_PART) = 1
                directlyChanged(BODY_PART) = 0
                addFile(2,true,11) = 2                   # its name is free, its number is not
                addFile(2,true,12) = 3
                targetOf(0) = NO_SUCH_FILE
                """);
    }

    private static void targetAndName() {
        Script.run("11 targetOf, 12 nameOf", THREE, """
                addFile(2,true,0) = 0
                addFile(0,false,99) = 1
                targetOf(0) = 2
                targetOf(1) = 0
                nameOf(0) = 0
                nameOf(1) = 99
                targetOf(2) = NO_SUCH_FILE
                nameOf(2) = NO_SUCH_FILE
                targetOf(-1) = NO_SUCH_FILE
                nameOf(-1) = NO_SUCH_FILE
                targetOf(MIN) = NO_SUCH_FILE
                nameOf(MIN) = NO_SUCH_FILE
                targetOf(MAX) = NO_SUCH_FILE
                nameOf(MAX) = NO_SUCH_FILE
                targetOf(39) = NO_SUCH_FILE
                nameOf(40) = NO_SUCH_FILE
                move(0,1) = 2
                rename(1,5) = 99
                clearChanges() = 3                       # interfaces of 2 and 1, body of 0
                targetOf(0) = 1
                nameOf(0) = 0
                targetOf(1) = 0
                nameOf(1) = 5
                clearChanges() = 0                       # asking touches nothing
                deleteFile(0) = 0
                targetOf(0) = NO_SUCH_FILE
                nameOf(0) = NO_SUCH_FILE
                targetOf(1) = 0
                nameOf(1) = 5
                """);
    }

    private static void follow() {
        Script.run("13 follow", THREE, """
                follow(-1) = BAD_VALUE
                follow(100) = BAD_VALUE
                follow(MIN) = BAD_VALUE
                follow(MAX) = BAD_VALUE
                follow(0) = NONE
                addFile(0,true,0) = 0
                addFile(0,false,99) = 1
                follow(0) = 0
                follow(99) = 1
                rename(0,50) = 0
                follow(0) = 0                            # nobody has it now: who got it last
                follow(50) = 0
                rename(1,0) = 99
                follow(0) = 1                            # who has it now
                follow(99) = 1
                rename(1,1) = 0
                follow(0) = 1
                rename(0,0) = 50
                follow(0) = 0
                follow(50) = 0
                rename(0,2) = 0
                deleteFile(0) = 2
                follow(0) = NONE                         # not file 1, which had it before
                follow(50) = NONE
                follow(2) = NONE
                follow(1) = 1
                addFile(1,true,50) = 2
                follow(50) = 2
                follow(2) = NONE
                rename(1,2) = 1
                follow(2) = 1
                follow(1) = 1
                rename(2,2) = NAME_IN_USE
                follow(2) = 1
                addFile(1,true,2) = NAME_IN_USE
                follow(2) = 1
                move(1,2) = 0
                follow(99) = 1
                """);
    }
}
