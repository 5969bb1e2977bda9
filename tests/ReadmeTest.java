import java.io.ByteArrayOutputStream;
import java.io.PrintStream;
import java.net.URL;
import java.net.URLClassLoader;
import java.nio.charset.StandardCharsets;
import java.nio.file.Files;
import java.nio.file.Path;
import javax.tools.ToolProvider;

/** The README's program: it compiles as it stands there, and tells of a book what is due. */
public final class ReadmeTest {
    private final Due due = new Due();
    private final Path folder;

    private ReadmeTest() throws Exception {
        folder = Files.createTempDirectory("readme");
    }

    public static void main(String[] args) throws Exception {
        ReadmeTest test = new ReadmeTest();
        test.compile();
        test.rightBook();
        test.wrongBook();
        test.bigBook();
        test.sweep();
        test.due.close();
    }

    private void compile() throws Exception {
        String readme = Files.readString(Path.of("README.md"));
        int from = readme.indexOf("```java\n") + "```java\n".length();
        Path source = folder.resolve("Look.java");
        Files.writeString(source, readme.substring(from, readme.indexOf("```", from)));
        int answer = ToolProvider.getSystemJavaCompiler().run(null, null, null, "-cp",
            System.getProperty("java.class.path"), "-d", folder.toString(), source.toString());
        due.is("the README's program compiles", answer, 0);
    }

    /** What the program prints of a book, its lines with | between. */
    private String look(byte[] book) throws Exception {
        Path file = folder.resolve("book.epub");
        Files.write(file, book);
        PrintStream before = System.out;
        ByteArrayOutputStream printed = new ByteArrayOutputStream();
        try (URLClassLoader loader = new URLClassLoader(new URL[] {folder.toUri().toURL()})) {
            System.setOut(new PrintStream(printed, true, StandardCharsets.UTF_8));
            loader.loadClass("Look").getMethod("main", String[].class).invoke(null, (Object) new String[] {file.toString()});
        } finally {
            System.setOut(before);
        }
        return String.join("|", printed.toString(StandardCharsets.UTF_8).lines().toList());
    }

    private void rightBook() throws Exception {
        due.is("a right book", look(new Book().bytes()), "read E/nav.xhtml|read E/t/page.xhtml"
            + "|contents 0 One in E/t/page.xhtml|contents 0 Part in |contents 1 Two in E/nav.xhtml");
    }

    private void wrongBook() throws Exception {
        Book book = new Book().drop("mimetype").swap(Book.PACK, "<dc:title>T</dc:title>", "")
            .swap(Book.PACK, "<itemref idref='page'/>", "").swap(Book.NAV, "<li><a href='t/page.xhtml#x'>One</a></li>", "");
        due.is("a wrong book", look(book.bytes()), "message 20 in [] at 0:0|message 53 in [E/p.opf] at 2:1"
            + "|read E/nav.xhtml|contents 0 Part in |contents 1 Two in E/nav.xhtml");
    }

    private void sweep() throws Exception {
        for (String file : new String[] {"Look.java", "Look.class", "book.epub"}) {
            Files.deleteIfExists(folder.resolve(file));
        }
        Files.delete(folder);
    }

    private void bigBook() throws Exception {
        due.is("a book that the tape has no room for", look(new byte[16001]), "the tape has room for 16000 bytes");
    }
}
