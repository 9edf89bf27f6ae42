import java.io.IOException;
import java.nio.charset.StandardCharsets;
import java.nio.file.Files;
import java.nio.file.Path;

/** Every sentence of the document that names an edge, each with a test of its own. */
public final class EdgesTest {
    public static void main(String[] args) throws IOException {
        if (args.length < 2) {
            System.out.println("EdgesTest needs the paths of NailStain.java and DOC.md");
            System.exit(1);
        }
        Dues dues = new Dues();
        Sentences document = new Sentences(Files.readString(Path.of(args[1]), StandardCharsets.ISO_8859_1), dues);
        new EdgesOfTexts(document, dues).tryAll();
        new EdgesOfShip(document, dues).tryAll();
        new EdgesOfDrawings(document, dues).tryAll();
        new EdgesOfLines(document, dues).tryAll();
        new EdgesOfFinds(document, dues).tryAll();
        new EdgesOfHull(document, dues).tryAll();
        document.all();
        dues.end("EdgesTest");
    }
}
