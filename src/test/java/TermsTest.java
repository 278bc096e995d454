/** Each sentence of the document's "Terms", by its own words, with the boundaries that it names. */
public final class TermsTest {
    private TermsTest() {
    }

    public static void main(String[] args) {
        Check check = new Check("TermsTest");
        Terms terms = new Terms(check);
        new ContractTerms(terms).all();
        new LedgerTerms(terms).all();
        terms.allAreNamed(new Document().terms());
        check.end();
    }
}
