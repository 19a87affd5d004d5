import java.io.IOException;

/**
 * Every sentence of the document that tells of an answer has a test of its own here: just inside the boundaries that
 * it names and just outside them. A sentence that no test quotes fails, and so does a quoted one that is not there.
 */
public final class BoundaryTest {
    private BoundaryTest() {
    }

    public static void main(String[] args) throws IOException {
        Checks checks = new Checks();
        Sentences doc = new Sentences(new Document(), checks);
        doc.tellsNoAnswer("What it is", "A pull line: stages make containers when cards tell them to, boards collect cards"
                + " until a run is worth while, markets hold what is made, conveyance cards fetch containers for the next"
                + " stage, and customers take from the last market.");
        new TermSentences(doc).all();
        new LineSentences(doc).all();
        new CardSentences(doc).all();
        new StepSentences(doc).all();
        new AnswerSentences(doc).all();
        notPromised(doc);
        doc.allWereQuoted();
        checks.close();
    }

    private static void notPromised(Sentences doc) {
        String part = "Not promised";
        doc.tellsNoAnswer(part, "How the state is held inside the object is free, as are the speed of each call, the text"
                + " of toString and the behaviour of equals and hashCode.");
        doc.tellsNoAnswer(part, "Use of one object from several threads at once is not promised to be safe.");
        doc.tellsNoAnswer(part, "Nothing is promised beyond the answers and state changes described above, and nothing"
                + " about an object after its 512th call.");
    }
}
