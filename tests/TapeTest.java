/** Promises 1 to 3: a new object, feed, end. */
public final class TapeTest {
    public static void main(String[] args) {
        Due due = new Due();
        EpubDesk desk = new EpubDesk();
        due.is("about ahead of any check", desk.about(0), EpubDesk.NONE);
        due.is("message ahead of any check", desk.message(0, 0), -3);
        due.is("entry ahead of any check", desk.entry(0, 0), EpubDesk.NONE);
        due.no("end(1) of an empty tape", desk.end(1));
        due.no("end(-1)", desk.end(-1));
        due.yes("end(0)", desk.end(0));
        due.yes("feed", desk.feed(1, 2, 3, 4, 5));
        due.no("end(21)", desk.end(21));
        due.yes("end(20)", desk.end(20));
        due.no("the tape is empty behind end", desk.end(1));
        fill(due, new EpubDesk());
        due.close();
    }

    private static void fill(Due due, EpubDesk desk) {
        for (int i = 0; i < 799; i++) {
            desk.feed(i, i, i, i, i);
        }
        due.yes("the 800th feed", desk.feed(0, 0, 0, 0, 0));
        due.no("the 801st feed", desk.feed(0, 0, 0, 0, 0));
        due.no("end(16001)", desk.end(16001));
        due.yes("end(16000)", desk.end(16000));
    }
}
