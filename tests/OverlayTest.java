/** Overlays: 26 to 29, clocks, durations (36, 37). */
public final class OverlayTest {
    private static final String SMIL = "<smil xmlns='http://www.w3.org/ns/SMIL' version='3.0'>";
    private static final String ITEM = "media-type='application/smil+xml'";

    private final Due due = new Due();

    public static void main(String[] args) {
        OverlayTest test = new OverlayTest();
        test.roots();
        test.parts();
        test.sources();
        test.clips();
        test.clocks();
        test.durations();
        test.due.close();
    }

    private static Book whole(String text) {
        return new Book().item("id='o' href='o.smil' " + ITEM).put("E/o.smil", text).item("id='s' href='s.mp3' media-type='audio/mpeg'").put("E/s.mp3", "");
    }

    private static Book body(String inside) {
        return whole(SMIL + "<body>" + inside + "</body></smil>");
    }

    private static String par(String clip) {
        return "<par><text src='nav.xhtml'/><audio src='s.mp3' " + clip + "/></par>";
    }

    private void roots() {
        body(par("")).due(due, "right");
        whole(SMIL + "<head><x/></head><body>" + par("") + "</body></smil>").due(due, "a head");
        String[] wrong = {"<smil version='3.0'><body/></smil>", SMIL.replace("3.0", "3") + "<body/></smil>", SMIL.replace(" version='3.0'", "") + "<body/></smil>",
            SMIL + "</smil>", SMIL + "<head/></smil>", SMIL + "<body/><head/></smil>", SMIL + "<body/><body/></smil>", SMIL + "<head/><head/><body/></smil>",
            SMIL + "<x/><body/></smil>", SMIL + "<body/><x/></smil>", SMIL + "<body xmlns='u'/></smil>", SMIL + "<head xmlns='u'/><body/></smil>", "<x/>"};
        for (String text : wrong) {
            whole(text).due(due, text, "26 E/o.smil <");
        }
        due.is("not well formed", new Desk().report(whole(SMIL).bytes()), "30@6:1:" + (SMIL.length() + 1));
    }

    private void parts() {
        body("").due(due, "an empty body", "27 E/o.smil <body");
        body(par("") + "<x/>").due(due, "more in the body", "27 E/o.smil <body");
        body("<seq/>").due(due, "an empty seq", "27 E/o.smil <seq");
        body("<seq>" + par("") + "<seq>" + par("") + "</seq></seq>").due(due, "a seq in a seq");
        body("<seq><text src='nav.xhtml'/></seq>").due(due, "a text in a seq", "27 E/o.smil <seq");
        body("<par xmlns='u'/>").due(due, "a par of another namespace", "27 E/o.smil <body");
        body("<par/>").due(due, "an empty par", "27 E/o.smil <par");
        body("<par><audio src='s.mp3'/></par>").due(due, "no text", "27 E/o.smil <par");
        body("<par><audio src='s.mp3'/><text src='nav.xhtml'/></par>").due(due, "the text behind");
        body("<par><text src='nav.xhtml'/></par>").due(due, "no audio");
        body("<par><text/><text/></par>").due(due, "two texts", "27 E/o.smil <par");
        body("<par><text/><audio/><audio/></par>").due(due, "two audios", "27 E/o.smil <par");
        body("<par><text/><x/></par>").due(due, "more in a par", "27 E/o.smil <par");
        body("<par><text/><seq/></par>").due(due, "a seq in a par", "27 E/o.smil <par");
        body("<par><text xmlns='u'/></par>").due(due, "a text of another namespace", "27 E/o.smil <par");
        body("<par><text src='nav.xhtml'><x/></text></par>").due(due, "what lies in a text");
        body("<seq><seq/><par/></seq>").due(due, "each is told", "27 E/o.smil <seq/", "27 E/o.smil <par");
    }

    private void sources() {
        body("<par><text/></par>").due(due, "no src", "28 E/o.smil <text");
        body("<par><text src=''/></par>").due(due, "an empty one", "28 E/o.smil <text");
        body("<par><text src='nav.xhtml#x'/><audio/></par>").due(due, "an audio's", "28 E/o.smil <audio");
        body("<par><text src='q'/></par>").due(due, "a missing one", "28 E/o.smil <text");
        body("<par><text src='p.opf'/></par>").due(due, "no item's", "28 E/o.smil <text");
        body("<par><text src='http://x'/></par>").due(due, "a far one", "28 E/o.smil <text");
    }

    private void clips() {
        String[] right = {"", "clipBegin='1'", "clipEnd='1'", "clipBegin='1' clipEnd='2'", "clipBegin='0' clipEnd='1ms'", "clipBegin='59.999' clipEnd='01:00'"};
        for (String clip : right) {
            body(par(clip)).due(due, "clip " + clip);
        }
        String[] wrong = {"clipBegin=''", "clipEnd=''", "clipBegin='x'", "clipEnd='x'", "clipEnd='0'", "clipBegin='1' clipEnd='1'", "clipBegin='2' clipEnd='1'",
            "clipBegin='x' clipEnd='1'", "clipBegin='1' clipEnd='x'", "clipBegin='1s' clipEnd='1000.9ms'", "clipEnd='0.0009'", "clipBegin=' 1'", "clipEnd='1 '"};
        for (String clip : wrong) {
            body(par(clip)).due(due, "clip " + clip, "29 E/o.smil <audio");
        }
    }

    /** Clocks are told by a duration that is 1001 above or below, and by one that is 1000. */
    private void clocks() {
        clock("0", 0);
        clock("5", 5000);
        clock("5s", 5000);
        clock("5.5s", 5500);
        clock("1500ms", 1500);
        clock("1500.999999ms", 1500);
        clock("1.5min", 90000);
        clock("0.000001h", 3);
        clock("999999.999999h", 3599999999996L);
        clock("123456.123456", 123456123);
        clock("00:00", 0);
        clock("59:59", 3599000);
        clock("01:02.5", 62500);
        clock("01:02.123456", 62123);
        clock("0:00:00", 0);
        clock("1:02:03", 3723000);
        clock("12:34:56.789", 45296789);
        clock("9999:59:59.999999", 35999999999L);
        clock("007", 7000);
        String[] wrong = {"x", "1234567", "5.", ".5", "5.1234567", "5 s", "5S", "5hs", "5m", "5sec", "-5", "+5", "1:2", "1:02", "001:02", "01:2", "01:002", "60:00", "00:60",
            "00:60:00", "00:00:60", "0:0:00", "10000:00:00", ":00:00", "00:00:", "00:00:00:00", "00:00s", "00:00.", "00:00.1234567", "00:00:00.", "00:00:00.x",
            "00:00:00.5s", "1.5:00", "01:00h", "1:00:00:"};
        for (String text : wrong) {
            new Book().meta("property='media:duration'", text).due(due, "clock " + text, "37 E/p.opf <meta property='media");
            body(par("clipEnd='" + text + "'")).due(due, "clipEnd " + text, "29 E/o.smil <audio");
            body(par("clipBegin='" + text + "'")).due(due, "clipBegin " + text, "29 E/o.smil <audio");
        }
    }

    private void clock(String text, long thousandths) {
        for (long change : new long[] {0, 1000, 1001, -1000, -1001}) {
            long to = thousandths + change;
            if (to <= 0 && thousandths != 0 || to < 0 || to > 999999 * 1000L) {
                continue;
            }
            Book book = to == 0 ? new Book() : body(par("clipEnd='" + to / 1000 + "." + String.format("%03d", to % 1000) + "s'"));
            book.meta("property='media:duration'", "\n" + text + " ");
            if (Math.abs(change) > 1000) {
                book.due(due, "clock " + text + " beside " + to, "37 E/p.opf <meta property='media");
            } else {
                book.due(due, "clock " + text + " and " + to);
            }
        }
    }

    private void durations() {
        String one = "property='media:duration' refines='#o'";
        String at = "E/p.opf <meta property='media";
        String five = par("clipBegin='1' clipEnd='3'") + "<seq>" + par("clipEnd='3'") + "</seq>";
        body(five).meta(one, "5").due(due, "of one");
        body(five).meta(one, "6.001").due(due, "of one, beside", "36 " + at);
        body(five).meta(one, "x").due(due, "of one, no clock", "36 " + at);
        body(five).meta(one, " ").due(due, "of one, nothing", "32 " + at, "36 " + at);
        body(five).meta("property='media:duration' refines='#page'", "5").due(due, "of a page", "36 " + at);
        body(five).meta("property='media:duration' refines='#uid'", "5").due(due, "of no item", "36 " + at);
        body(five).meta("property='media:duration' refines='o'", "5").due(due, "of nothing", "33 " + at, "36 " + at);
        body(five).meta("property='media:duration' refines=''", "5").due(due, "of nothing at all", "33 " + at, "36 " + at);
        body(five).meta("property='media:duration'", "5").due(due, "of all");
        body(five).meta("property='media:duration' name='x'", "x").due(due, "no meta of these");
        new Book().meta("property='media:duration'", "1").due(due, "of none");
        new Book().meta("property='media:duration'", "1.001").due(due, "of none, beside", "37 " + at);
        body(five).item("id='o2' href='o.smil' " + ITEM).meta("property='media:duration'", "10").due(due, "an item twice", "61 E/p.opf <item id='o2'");
        body(five).item("id='o2' href='o2.smil' " + ITEM).put("E/o2.smil", SMIL + "<body>" + par("clipEnd='1:00:00'") + "</body></smil>")
            .meta("property='media:duration'", "3605").due(due, "of two");
        body(five).item("id='o2' href='o2.smil' " + ITEM).put("E/o2.smil", SMIL + "<body><par><text src='nav.xhtml'/></par></body></smil>")
            .meta("property='media:duration'", "6.001").due(due, "of two, one of which lasts nothing", "37 " + at);
        body(five).item("id='o2' href='gone' " + ITEM).meta("property='media:duration'", "77").meta(one, "77")
            .due(due, "of one that is missing", "60 E/p.opf <item id='o2'", "36 E/p.opf <meta property='media:duration' refines");
        body(five).item("id='o2' href='gone' " + ITEM).meta("property='media:duration' refines='#o2'", "77").due(due, "not known: missing", "60 E/p.opf <item id='o2'");
        body(five + par("")).meta(one, "77").due(due, "not known: no end");
        body(five + par("clipEnd='x'")).meta(one, "77").due(due, "not known: 29", "29 E/o.smil <audio src='s.mp3' clipEnd='x'");
        body(five + "<seq/>").meta(one, "77").due(due, "not known: 27", "27 E/o.smil <seq/");
        body(five + "<par/>").meta(one, "77").due(due, "not known: 27 of a par", "27 E/o.smil <par/");
        body("<seq/>" + five).meta(one, "77").due(due, "not known: 27 ahead", "27 E/o.smil <seq/");
        body(par("") + five).meta(one, "77").due(due, "not known: no end, ahead");
        Book first = body(five).meta(one, "77");
        first.swap(Book.PACK, "<item id='o' href='o.smil' " + ITEM + "/>\n", "").swap(Book.PACK, "<manifest>\n", "<manifest>\n<item id='o' href='o.smil' " + ITEM + "/>\n");
        first.due(due, "the first item", "36 " + at);
        body(five + "<par><text/></par>").meta(one, "77").due(due, "known: 28", "28 E/o.smil <text/", "36 " + at);
        whole("<smil/>").meta(one, "77").due(due, "not known: 26", "26 E/o.smil <");
        whole("<smil/>").meta(one, "x").due(due, "not known, no clock", "26 E/o.smil <", "36 " + at);
        body("<par><text src='nav.xhtml'/></par>").meta(one, "1").due(due, "no audio lasts nothing");
        body("<par><text src='nav.xhtml'/></par>").meta(one, "1.001").due(due, "no audio, beside", "36 " + at);
    }
}
