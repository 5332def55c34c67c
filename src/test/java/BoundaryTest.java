import java.nio.file.Files;
import java.nio.file.Path;
import java.util.List;

/**
 * Each sentence of the document that names a boundary case, called up by that very case. Each answer that isn't as
 * due is told with its promise and its sentence; a word of the document that no test quotes is a fault, too.
 */
public final class BoundaryTest {
    public static void main(String[] args) throws java.io.IOException {
        if (args.length < 2) {
            System.out.println("the path of the document is missing");
            System.exit(1);
        }
        Path path = Path.of(args[1]);
        // Where the document isn't at hand the answers are still looked at, the quotations aren't.
        Doc doc = Files.isReadable(path) ? new Doc(path) : null;
        Bound.open(doc);
        GameBounds.all();
        WorkBounds.all();
        WorthBounds.all();
        PaperBounds.all();
        AnswerBounds.all();
        ToldBounds.all();
        MadeBounds.all();
        ShareBounds.all();
        KindBounds.all();
        RowBounds.all();
        Bound.close();
        if (doc == null) {
            System.out.println("the document isn't at " + path + ": no quotation was looked at");
        } else {
            wholeDocument(doc);
        }
        Check.end();
    }

    private static void wholeDocument(Doc doc) {
        Check.due("promises of the document", doc.promises(), 54);
        List<String> left = doc.unquoted();
        for (String words : left) {
            System.out.println("no test stands for " + words);
        }
        Check.due("words of the document that no test stands for", left.size(), 0);
    }
}
