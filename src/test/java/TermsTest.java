import java.io.IOException;
import java.nio.file.Path;

/** Each sentence of the document's "Terms", by its own words, with the boundaries that it names. */
public final class TermsTest {
    private TermsTest() {
    }

    public static void main(String[] args) throws IOException {
        Check check = new Check("TermsTest");
        Terms terms = new Terms(check);
        new ContractTerms(terms).all();
        new LedgerTerms(terms).all();
        terms.allAreNamed(Path.of("../shared/DOC.md"));
        check.end();
    }
}
