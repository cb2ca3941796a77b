/** Each sentence of the document that names an edge, at the last number that is told and at the first that is not. */
public final class EdgesTest {
    public static void main(String[] args) {
        Checks checks = new Checks("EdgesTest");
        new EdgesOfTexts(checks).all();
        new EdgesOfRuns(checks).all();
        new EdgesOfGauges(checks).all();
        new EdgesOfWorlds(checks).all();
        new EdgesOfSwaps(checks).all();
        checks.allNamed();
        checks.end();
    }
}
