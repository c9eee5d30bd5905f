/** Each sentence of the document that names a boundary case has a test here, by its own words. */
public final class EdgesTest {
    public static void main(String[] args) throws Exception {
        EdgesOfNets.all();
        EdgesOfLines.all();
        EdgesOfFlows.all();
        EdgesOfRules.all();
        EdgesOfForms.all();
        EdgesOfShares.all();
        EdgesOfTrials.all();
        EdgesOfStore.all();
        EdgesOfRefusals.all();
        Document.lookForRest();
        Due.end("EdgesTest");
    }
}
