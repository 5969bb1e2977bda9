/** Promises 1 to 4: a new object, feed, end, and what check does with the tape and the input. */
public final class TapeTest {
    private static final int SIGN = 0x504B0506;
    private static final int NO_ARCHIVE = 1;

    private final Due due = new Due();

    public static void main(String[] args) {
        TapeTest test = new TapeTest();
        test.newObject();
        test.bytesOfNumbers();
        test.refusedEnds();
        test.cuts();
        test.inputs();
        test.fullTape();
        test.fullTapeStays();
        test.usedUp();
        test.due.close();
    }

    /** The smallest archive: an end without entries, 22 bytes; its report has 20 and 22. */
    private static EpubDesk fedWithSmallest() {
        EpubDesk desk = new EpubDesk();
        desk.feed(SIGN, 0, 0, 0, 0);
        desk.feed(0, 0, 0, 0, 0);
        return desk;
    }

    private void isSmallest(String what, EpubDesk desk) {
        due.is(what, desk.check(), 2);
        due.is(what + ": its first code", desk.message(0, 0), 20);
    }

    private void isNoArchive(String what, EpubDesk desk) {
        due.is(what, desk.check(), 1);
        due.is(what + ": its code", desk.message(0, 0), NO_ARCHIVE);
    }

    private void newObject() {
        due.no("a new object's tape is empty", new EpubDesk().end(1));
        due.yes("nothing can be cut off it", new EpubDesk().end(0));
        isNoArchive("a new object's input is empty", new EpubDesk());
        EpubDesk desk = new EpubDesk();
        due.is("nothing is checked: about", desk.about(0), EpubDesk.NONE);
        due.is("nothing is checked: message", desk.message(0, 0), -3);
        due.is("nothing is checked: contents", desk.contents(0, 0), -3);
        desk.feed(1, 2, 3, 4, 5);
        due.is("nothing is checked behind a feed", desk.about(0), EpubDesk.NONE);
        desk.end(20);
        due.is("nothing is checked behind an end", desk.about(0), EpubDesk.NONE);
        due.is("NONE", EpubDesk.NONE, -1);
    }

    private void bytesOfNumbers() {
        EpubDesk desk = fedWithSmallest();
        due.yes("22 bytes", desk.end(22));
        isSmallest("the highest byte comes first", desk);
        desk = new EpubDesk();
        desk.feed(0x0605_4B50, 0, 0, 0, 0);
        desk.feed(0, 0, 0, 0, 0);
        desk.end(22);
        isNoArchive("the lowest byte comes last", desk);
        Zip zip = new Zip();
        byte[] all = new byte[256];
        for (int i = 0; i < 256; i++) {
            all[i] = (byte) (255 - i);
        }
        zip.stored("a", all);
        Desk fed = new Desk();
        fed.check(zip.bytes());
        for (int i = 0; i < 256; i++) {
            due.is("byte " + i + " of numbers below and above 0", fed.resource(0, i), 255 - i);
        }
    }

    private void refusedEnds() {
        EpubDesk desk = fedWithSmallest();
        for (int n : new int[] {-1, -2, Integer.MIN_VALUE, 41, 42, 16000, 16001, Integer.MAX_VALUE}) {
            due.no("end(" + n + ") of 40 bytes", desk.end(n));
        }
        due.yes("a refused end leaves the tape", desk.end(22));
        for (int n : new int[] {1, -1, Integer.MIN_VALUE, Integer.MAX_VALUE}) {
            due.no("end(" + n + ") of an empty tape", desk.end(n));
        }
        isSmallest("a refused end leaves the input", desk);
        due.no("end(1)", desk.end(1));
        due.is("a refused end leaves what was checked", desk.message(1, 0), 22);
    }

    private void cuts() {
        EpubDesk desk = fedWithSmallest();
        due.yes("all of the tape", desk.end(40));
        isNoArchive("with bytes behind the end", desk);
        desk = fedWithSmallest();
        due.yes("end(21)", desk.end(21));
        isNoArchive("with a byte too few", desk);
        desk = fedWithSmallest();
        due.yes("end(22)", desk.end(22));
        due.no("the tape is empty behind a cut, the rest of it too", desk.end(1));
        due.yes("it can be fed again", desk.feed(1, 2, 3, 4, 5));
        due.no("from its beginning on", desk.end(21));
        due.yes("twenty bytes a feed", desk.end(20));
    }

    private void inputs() {
        EpubDesk desk = fedWithSmallest();
        desk.end(22);
        due.yes("end(0) cuts nothing off", desk.end(0));
        isNoArchive("the input is what was cut off last: nothing", desk);
        desk = new EpubDesk();
        desk.feed(1, 2, 3, 4, 5);
        desk.end(20);
        desk.feed(SIGN, 0, 0, 0, 0);
        desk.feed(0, 0, 0, 0, 0);
        desk.end(22);
        isSmallest("the input is what was cut off last", desk);
        isNoArchive("check uses the input up", desk);
        isNoArchive("and once more", desk);
        desk = new EpubDesk();
        desk.feed(SIGN, 0, 0, 0, 0);
        isNoArchive("what is on the tape is no input", desk);
        desk.feed(0, 0, 0, 0, 0);
        due.yes("check leaves the tape", desk.end(22));
        isSmallest("as it was", desk);
        desk = fedWithSmallest();
        desk.end(22);
        desk.feed(1, 2, 3, 4, 5);
        isSmallest("feeding behind an end leaves the input", desk);
        due.yes("and stays on the tape", desk.end(20));
        due.is("what is cut off isn't checked yet", desk.message(0, 0), 20);
        isNoArchive("it takes the place of the one before", desk);
    }

    /** An archive that fills the tape: a comment brings it to 16000 bytes. (More calls than are promised are needed.) */
    private static byte[] fullArchive() {
        Zip zip = new Zip();
        zip.stored("a", Zip.latin("data"));
        zip.comment = new byte[16000 - zip.bytes().length];
        return zip.bytes();
    }

    private void fullTape() {
        EpubDesk desk = new EpubDesk();
        byte[] row = fullArchive();
        for (int at = 0; at < 15980; at += 20) {
            Desk.feed(desk, row, at);
        }
        due.yes("the feed that fills the tape", Desk.feed(desk, row, 15980));
        due.no("a feed without room", desk.feed(-1, -1, -1, -1, -1));
        due.no("and once more", desk.feed(SIGN, 0, 0, 0, 0));
        due.no("none of it came", desk.end(16001));
        due.yes("all of a full tape", desk.end(16000));
        due.is("the bytes are as they were", desk.check(), 2);
        due.is("its entries", desk.about(0), 1);
        due.is("its entry's bytes", desk.resource(0, 3), 'a');
        due.yes("there is room again", desk.feed(1, 2, 3, 4, 5));
    }

    private void fullTapeStays() {
        EpubDesk desk = new EpubDesk();
        Desk.feed(desk, fullArchive());
        due.no("a full tape is refused more", desk.feed(0, 0, 0, 0, 0));
        due.no("a full tape has not more", desk.end(16001));
        due.no("below 0", desk.end(-1));
        due.no("it is full still", desk.feed(0, 0, 0, 0, 0));
        due.yes("end(0) empties it", desk.end(0));
        due.yes("a feed has room again", desk.feed(0, 0, 0, 0, 0));
        due.no("it was empty", desk.end(21));
    }

    /** A check takes the place of the one before, whole. */
    private void usedUp() {
        Desk desk = new Desk();
        desk.check(new Book().bytes());
        due.is("a right book", desk.about(), "6 6 2 3 2 3 3 0 13");
        due.is("nothing is left of the input", desk.checkNothing(), 1);
        due.is("about behind a fatal one", desk.about(), "0 0 -1 -1 0 0 0 0 0");
        due.is("entry behind a fatal one", desk.entry(0, 0), EpubDesk.NONE);
        due.is("name behind a fatal one", desk.name(0, 0), EpubDesk.NONE);
        due.is("resource behind a fatal one", desk.resource(0, 0), EpubDesk.NONE);
        due.is("order behind a fatal one", desk.order(0), EpubDesk.NONE);
        due.is("contents behind a fatal one", desk.contents(0, 0), -3);
        due.is("label behind a fatal one", desk.label(0, 0), EpubDesk.NONE);
        desk.check(new Book().bytes());
        due.is("a right book behind it", desk.about(), "6 6 2 3 2 3 3 0 13");
        due.is("an archive without entries", desk.report(new Zip().bytes()), "20@-1:0:0 22@-1:0:0");
        due.is("about it", desk.about(), "0 0 -1 -1 0 0 0 0 0");
        due.is("its order", desk.order(0), EpubDesk.NONE);
        due.is("its contents", desk.contents(0, 0), -3);
    }
}
