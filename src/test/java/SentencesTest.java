import java.util.ArrayList;
import java.util.List;

/** Every sentence of the document that names a boundary case, each with a test of its own. */
public final class SentencesTest {
    public static void main(String[] args) throws Exception {
        Check check = new Check("SentencesTest");
        Book book = book();
        for (Book.Entry entry : book.entries()) {
            run(entry, check);
        }
        check.about("");
        System.out.println("SentencesTest: " + book.entries().size() + " sentences have a test");
        book.compareWithDocument(check);
        check.end();
    }

    private static void run(Book.Entry entry, Check check) {
        check.about(entry.title());
        int before = check.asked();
        try {
            entry.test().accept(check);
        } catch (RuntimeException thrown) {
            // No call may throw; the other tests run all the same.
            check.due("a call throws " + thrown, 1, 0);
        }
        check.due("asks nothing", check.asked() == before ? 1 : 0, 0);
    }

    private static Book book() {
        Book book = new Book();
        DescriptionSentences.enter(book);
        SecondSentences.enter(book);
        SupplySentences.enter(book);
        PortSentences.enter(book);
        PowerSentences.enter(book);
        PlanningSentences.enter(book);
        SnapshotSentences.enter(book);
        return book;
    }

    static List<String> titles() {
        return book().entries().stream().map(Book.Entry::title).toList();
    }

    /** The titles of the tests that fail; Mutation asks this of a changed program. */
    static List<String> failing() {
        List<String> failing = new ArrayList<>();
        for (Book.Entry entry : book().entries()) {
            Check check = new Check("SentencesTest");
            run(entry, check);
            if (check.wrong() > 0) {
                failing.add(entry.title());
            }
        }
        return failing;
    }
}
