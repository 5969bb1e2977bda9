import java.util.ArrayList;
import java.util.List;
import java.util.Random;

/** Any calls in any order on archives of all kinds: nothing throws, reports are in order, and the same again. */
public final class FuzzTest {
    private static final String[] PIECES = {"<", ">", "&", "'", "\"", "/", " ", "<a/>", "</a>", "<ol>", "</ol>", "<li>", "</li>",
        "xmlns='u'", "xmlns:p='u'", "p:", "id='nav'",
        "<!--", "-->", "<![CDATA[", "]]>", "&amp;", "&#0;", "\u0000", "\ufffe", "\r", "\r\n", "\n", "#", "%", "..", "\u00e9", "<nav/>",
            "<item/>", "<meta/>", "<itemref/>"};

    private final Due due = new Due();
    private final Random random = new Random(20261115);

    public static void main(String[] args) {
        FuzzTest test = new FuzzTest();
        test.mutants();
        test.noise();
        test.calls();
        test.manyMessages();
        test.due.close();
    }

    private static Book full() {
        return new Book().item("id='o' href='o.smil' media-type='application/smil+xml'")
            .put("E/o.smil", "<smil xmlns='http://www.w3.org/ns/SMIL' version='3.0'><body><par><text src='nav.xhtml'/><audio src='i/pic.png' clipBegin='1' clipEnd='00:03'/></par></body></smil>")
            .meta("property='media:duration' refines='#o'", "2")
            .put(Book.ENCRYPTION,
                "<encryption xmlns='urn:oasis:names:tc:opendocument:xmlns:container' xmlns:x='http://www.w3.org/2001/04/xmlenc#'><x:EncryptedData>"
                + "<x:EncryptionMethod Algorithm='http://www.idpf.org/2008/embedding'/><x:CipherData><x:CipherReference URI='E/i/pic.png'/></x:CipherData></x:EncryptedData></encryption>");
    }

    private byte[] mutant() {
        Book book = full();
        int changes = random.nextInt(4);
        for (int n = 0; n < changes; n++) {
            List<String> names = new ArrayList<>(book.files.keySet());
            String name = names.get(random.nextInt(names.size()));
            String text = book.files.get(name);
            int at = random.nextInt(text.length() + 1);
            int to = Math.min(text.length(), at + random.nextInt(4) * random.nextInt(8));
            book.put(name, text.substring(0, at) + (random.nextInt(3) > 0 ? PIECES[random.nextInt(PIECES.length)] : "")
                + text.substring(to));
        }
        byte[] row = book.bytes();
        int flips = random.nextInt(3) == 0 ? random.nextInt(6) : 0;
        for (int n = 0; n < flips; n++) {
            int at = random.nextBoolean() ? random.nextInt(row.length) : Math.max(0, row.length - 1 - random.nextInt(600));
            row[at] = (byte) (random.nextBoolean() ? random.nextInt(256) : row[at] ^ 1 << random.nextInt(8));
        }
        return row;
    }

    private void mutants() {
        Desk used = new Desk();
        for (int round = 0; round < 3000; round++) {
            byte[] row = mutant();
            String got = all(used, row);
            if (round % 4 == 0) {
                due.is("a used object and a new one, round " + round, got, all(new Desk(), row));
            }
        }
    }

    /** All answers of a check, looked at for what always holds. */
    private String all(Desk desk, byte[] row) {
        int n = desk.check(row);
        int wrong = 0;
        for (int i = 0; i < n; i++) {
            int code = desk.message(i, 0);
            int severity = desk.message(i, 1);
            wrong += severity == (code < 10 ? 1 : code < 90 ? 2 : 3) ? 0 : 1;
            wrong += desk.message(i, 2) >= -1 && desk.message(i, 2) < Math.max(desk.about(0), 0) ? 0 : 1;
            wrong += severity == 1 && n != 1 ? 1 : 0;
            wrong += i > 0 && compare(desk, i - 1, i) >= 0 ? 1 : 0;
        }
        wrong += desk.message(n, 0) == -3 ? 0 : 1;
        due.is("what always holds", wrong, 0);
        StringBuilder all = new StringBuilder(desk.report()).append('|').append(desk.about()).append('|').append(desk.order()).append('|').append(desk.contents());
        for (int i = 0; i < desk.about(0); i++) {
            all.append('|').append(desk.name(i));
            for (int k = -1; k < 3 || desk.resource(i, k - 1) != EpubDesk.NONE; k += k < 30 ? 1 : 61) {
                all.append(' ').append(desk.resource(i, k));
            }
            for (int what = 0; what < 6; what++) {
                all.append(' ').append(desk.entry(i, what));
            }
        }
        return all.toString();
    }

    private static int compare(Desk desk, int i, int j) {
        for (int what : new int[] {2, 3, 4, 0}) {
            int order = Integer.compare(desk.message(i, what), desk.message(j, what));
            if (order != 0) {
                return order;
            }
        }
        return 0;
    }

    private void noise() {
        Desk desk = new Desk();
        for (int round = 0; round < 500; round++) {
            byte[] row = new byte[random.nextInt(300)];
            random.nextBytes(row);
            byte[] tail = new Zip().bytes();
            for (int i = 0; i < 4 && row.length >= 22; i++) {
                row[row.length - 22 + i] = tail[i];
            }
            for (int i = 0; i < 18 && row.length >= 22; i++) {
                row[row.length - 18 + i] = (byte) (random.nextInt(4) == 0 ? random.nextInt(60) : 0);
            }
            all(desk, row);
        }
    }

    private int odd() {
        switch (random.nextInt(4)) {
            case 0:
                return random.nextInt(12) - 2;
            case 1:
                return random.nextInt();
            case 2:
                return random.nextBoolean() ? Integer.MAX_VALUE : Integer.MIN_VALUE;
            default:
                return random.nextInt(6);
        }
    }

    /** As many calls as are promised, of every kind, on one object. */
    private void calls() {
        for (int run = 0; run < 120; run++) {
            EpubDesk desk = new EpubDesk();
            long sum = 0;
            int calls = 0;
            while (calls < 512) {
                byte[] row = random.nextInt(60) == 0 ? mutant() : null;
                if (row != null && calls + row.length / 20 + 3 <= 512) {
                    calls += Desk.feed(desk, row) + 2;
                    sum += desk.end(row.length) ? desk.check() : 0;
                }
                if (calls < 512) {
                    sum += anyCall(desk);
                    calls++;
                }
            }
            due.yes("512 calls were answered", sum != 0);
        }
    }

    private int anyCall(EpubDesk desk) {
        return switch (random.nextInt(22)) {
            case 0 -> desk.feed(odd(), odd(), odd(), odd(), odd()) ? 1 : 0;
            case 1 -> desk.end(odd()) ? 1 : 0;
            case 2 -> random.nextInt(6) == 0 ? desk.check() : desk.about(odd());
            case 3, 4, 5 -> desk.message(odd(), odd());
            case 6, 7 -> desk.about(odd());
            case 8, 9 -> desk.entry(odd(), odd());
            case 10, 11 -> desk.name(odd(), odd());
            case 12, 13, 14 -> desk.resource(odd(), odd());
            case 15, 16 -> desk.order(odd());
            case 17, 18, 19 -> desk.contents(odd(), odd());
            default -> desk.label(odd(), odd());
        };
    }

    /** As many messages as elements can be told of. */
    private void manyMessages() {
        Book book = new Book();
        String page = "<html xmlns='http://www.w3.org/1999/xhtml'>" + "<img/>".repeat(299) + "</html>";
        for (int i = 0; i < 11; i++) {
            book.item("id='z" + i + "' href='z" + i + "' media-type='application/xhtml+xml'").put("E/z" + i, page);
        }
        Desk desk = new Desk();
        due.is("messages of many pages", desk.check(book.bytes()), 11 * 299);
        due.is("the last one", desk.message(11 * 299 - 1, 4), page.lastIndexOf("<img/>") + 1);
        due.is("its entry", desk.message(11 * 299 - 1, 2), 16);
    }
}
