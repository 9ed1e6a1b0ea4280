/**
 * The boundary cases that the document names, each under the words of its sentence. Every sentence of
 * "What it is", "Terms" and the promises has at least one test; which, stands in the run methods.
 */
public final class EdgesTest {
    private EdgesTest() {
    }

    public static void main(String[] args) {
        Sentences s = new Sentences();
        EdgesOfBookings.run(s);
        EdgesOfLinenAndDebts.run(s);
        EdgesOfRefusals.run(s);
        EdgesOfChanges.run(s);
        EdgesOfQuestions.run(s);
        s.allUnder("What it is");
        s.allUnder("Terms");
        s.allUnder("Promise ");
        Check.finish("EdgesTest");
    }
}
