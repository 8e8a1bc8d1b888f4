import java.nio.file.Path;

/** Every sentence of the document that names a boundary, quoted, with a test of its own. */
public final class EdgesTest {
    public static void main(String[] args) throws Exception {
        Sentences s = new Sentences(Path.of("../shared/DOC.md"));
        new EdgesOfFriends(s).run();
        new EdgesOfPosts(s).run();
        new EdgesOfThought(s).run();
        new EdgesOfTexts(s).run();
        new EdgesOfSheets(s).run();
        new EdgesOfImages(s).run();
        new Refusals(s).run();
        s.end();
    }
}
