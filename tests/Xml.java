/** Looks at documents as an archive's container: whether they are parsed, or what is told of them, and where. */
final class Xml {
    /** Stands in a document where the message is due; it is no part of it. */
    static final char HERE = '\u00a4';

    private final Due due;

    Xml(Due due) {
        this.due = due;
    }

    static String report(byte[] data) {
        Zip zip = new Zip();
        zip.stored("mimetype", Zip.latin("application/epub+zip"));
        zip.deflated("META-INF/container.xml", data);
        return new Desk().report(zip.bytes());
    }

    /** The document is parsed: all that is told is that its root is no container. */
    void right(String text) {
        String report = report(Zip.utf8(text));
        due.is("right: " + text, report.startsWith("40@1:") && !report.contains(" ") ? "parsed" : report, "parsed");
    }

    /** The document isn't parsed: this code is told at the mark in it. */
    void told(int code, String text) {
        int at = text.indexOf(HERE);
        told(code, text.substring(0, at) + text.substring(at + 1), at);
    }

    void told(int code, String text, int at) {
        int line = 1;
        int column = 1;
        for (int i = 0; i < at; i += Character.charCount(text.codePointAt(i))) {
            char c = text.charAt(i);
            boolean over = c == '\n' || c == '\r' && (i + 1 >= text.length() || text.charAt(i + 1) != '\n');
            line += over ? 1 : 0;
            column = over ? 1 : column + 1;
        }
        due.is("wrong: " + text, report(Zip.utf8(text)), code + "@1:" + line + ":" + column);
    }
}
