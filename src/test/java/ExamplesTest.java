/** The four worked examples of the document. */
public final class ExamplesTest {
    public static void main(String[] args) {
        Script.run("example 1", "addTarget(0,10) = 0; addTarget(0,20) = 1; addTarget(2,7) = 2; "
                + "addDependency(1,0,1) = 1; addDependency(2,1,3) = 2; addFile(0,true,1) = 0; "
                + "addFile(0,false,2) = 1; clearChanges() = 2; edit(1) = 0; changed(1) = 1; "
                + "affectedTests() = 4; edit(0) = 0; changed(1) = 3; rebuildTime() = 30");
        Script.run("example 2", "addTarget(1,5) = 0; addTarget(0,30) = 1; addTarget(0,8) = 2; "
                + "addDependency(1,0,2) = 1; addDependency(2,1,1) = 2; addFile(0,false,1) = 0; "
                + "changed(0) = 2; changed(1) = 7; chain(2,1,-1) = 3; chain(2,1,0) = 1; "
                + "chain(2,1,1) = 2; chain(2,1,2) = 5");
        Script.run("example 3", "addTarget(0,1) = 0; addTarget(2,3) = 1; addTarget(2,3) = 2; "
                + "addTarget(2,2) = 3; addTarget(2,2) = 4; addTarget(2,2) = 5; addFile(1,false,1) = 0; "
                + "addFile(2,false,2) = 1; addFile(3,false,3) = 2; addFile(4,false,4) = 3; "
                + "addFile(5,false,5) = 4; shardOf(3,2) = 0; shardLoad(2,0) = 7; shardLoad(2,1) = 5; "
                + "bestGreatestLoad(2) = 6");
        Script.run("example 4", "addTarget(0,1) = 0; addTarget(0,1) = 1; addDependency(0,1,0) = 1; "
                + "addDependency(1,0,1) = -7; addDependency(0,1,1) = -6; addDependency(0,1,2) = -5; "
                + "addFile(0,true,5) = 0; rename(0,5) = -9; rename(0,6) = 5; follow(5) = 0");
        Script.end();
    }
}
