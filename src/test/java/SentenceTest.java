/** Each sentence of the document's promises, by its own words behind the promise's number. */
public final class SentenceTest {
    private SentenceTest() {
    }

    public static void main(String[] args) {
        Check check = new Check("SentenceTest");
        Terms terms = new Terms(check);
        new Parameters(terms).all();
        new Answers(terms).all();
        new Refusals(terms).all();
        terms.allAreNamed(new Document().promises());
        check.end();
    }
}
