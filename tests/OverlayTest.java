/** Overlays: 26 to 29, clocks, durations (36, 37). */
public final class OverlayTest {
    private static final String SMIL = "<smil xmlns='http://www.w3.org/ns/SMIL' version='3.0'>";
    private static final String ITEM = "media-type='application/smil+xml'";

    private final Due due = new Due();

    public static void main(String[] args) {
        OverlayTest test = new OverlayTest();
        test.roots();
        test.parts();
        test.sources();
        test.clips();
        test.clocks();
        test.durations();
        test.rootsBeside();
        test.partsBeside();
        test.sourcesBeside();
        test.clipsBeside();
        test.clocksBeside();
        test.whatIsLessIsCutOff();
        test.sums();
        test.notKnown();
        test.ofAll();
        test.toldInThePackage();
        test.endsOfValues();
        test.firstEntry();
        test.firstItem();
        test.fullSize();
        test.due.close();
    }

    private static Book whole(String text) {
        return new Book().item("id='o' href='o.smil' " + ITEM).put("E/o.smil", text).item("id='s' href='s.mp3' media-type='audio/mpeg'")
            .put("E/s.mp3", "");
    }

    private static Book body(String inside) {
        return whole(SMIL + "<body>" + inside + "</body></smil>");
    }

    private static String par(String clip) {
        return "<par><text src='nav.xhtml'/><audio src='s.mp3' " + clip + "/></par>";
    }

    private void roots() {
        body(par("")).due(due, "right");
        whole(SMIL + "<head><x/></head><body>" + par("") + "</body></smil>").due(due, "a head");
        String[] wrong = {"<smil version='3.0'><body/></smil>", SMIL.replace("3.0", "3") + "<body/></smil>", SMIL.replace(" version='3.0'",
            "") + "<body/></smil>",
            SMIL + "</smil>", SMIL + "<head/></smil>", SMIL + "<body/><head/></smil>", SMIL + "<body/><body/></smil>", SMIL
                + "<head/><head/><body/></smil>",
            SMIL + "<x/><body/></smil>", SMIL + "<body/><x/></smil>", SMIL + "<body xmlns='u'/></smil>", SMIL
                + "<head xmlns='u'/><body/></smil>", "<x/>"};
        for (String text : wrong) {
            whole(text).due(due, text, "26 E/o.smil <");
        }
        due.is("not well formed", new Desk().report(whole(SMIL).bytes()), "30@6:1:" + (SMIL.length() + 1));
    }

    private void parts() {
        body("").due(due, "an empty body", "27 E/o.smil <body");
        body(par("") + "<x/>").due(due, "more in the body", "27 E/o.smil <body");
        body("<seq/>").due(due, "an empty seq", "27 E/o.smil <seq");
        body("<seq>" + par("") + "<seq>" + par("") + "</seq></seq>").due(due, "a seq in a seq");
        body("<seq><text src='nav.xhtml'/></seq>").due(due, "a text in a seq", "27 E/o.smil <seq");
        body("<par xmlns='u'/>").due(due, "a par of another namespace", "27 E/o.smil <body");
        body("<par/>").due(due, "an empty par", "27 E/o.smil <par");
        body("<par><audio src='s.mp3'/></par>").due(due, "no text", "27 E/o.smil <par");
        body("<par><audio src='s.mp3'/><text src='nav.xhtml'/></par>").due(due, "the text behind");
        body("<par><text src='nav.xhtml'/></par>").due(due, "no audio");
        body("<par><text/><text/></par>").due(due, "two texts", "27 E/o.smil <par");
        body("<par><text/><audio/><audio/></par>").due(due, "two audios", "27 E/o.smil <par");
        body("<par><text/><x/></par>").due(due, "more in a par", "27 E/o.smil <par");
        body("<par><text/><seq/></par>").due(due, "a seq in a par", "27 E/o.smil <par");
        body("<par><text xmlns='u'/></par>").due(due, "a text of another namespace", "27 E/o.smil <par");
        body("<par><text src='nav.xhtml'><x/></text></par>").due(due, "what lies in a text");
        body("<seq><seq/><par/></seq>").due(due, "each is told", "27 E/o.smil <seq/", "27 E/o.smil <par");
    }

    private void sources() {
        body("<par><text/></par>").due(due, "no src", "28 E/o.smil <text");
        body("<par><text src=''/></par>").due(due, "an empty one", "28 E/o.smil <text");
        body("<par><text src='nav.xhtml#x'/><audio/></par>").due(due, "an audio's", "28 E/o.smil <audio");
        body("<par><text src='q'/></par>").due(due, "a missing one", "28 E/o.smil <text");
        body("<par><text src='p.opf'/></par>").due(due, "no item's", "28 E/o.smil <text");
        body("<par><text src='http://x'/></par>").due(due, "a far one", "28 E/o.smil <text");
    }

    private void clips() {
        String[] right = {"", "clipBegin='1'", "clipEnd='1'", "clipBegin='1' clipEnd='2'", "clipBegin='0' clipEnd='1ms'",
            "clipBegin='59.999' clipEnd='01:00'"};
        for (String clip : right) {
            body(par(clip)).due(due, "clip " + clip);
        }
        String[] wrong = {"clipBegin=''", "clipEnd=''", "clipBegin='x'", "clipEnd='x'", "clipEnd='0'", "clipBegin='1' clipEnd='1'",
            "clipBegin='2' clipEnd='1'",
            "clipBegin='x' clipEnd='1'", "clipBegin='1' clipEnd='x'", "clipBegin='1s' clipEnd='1000.9ms'", "clipEnd='0.0009'",
                "clipBegin=' 1'", "clipEnd='1 '"};
        for (String clip : wrong) {
            body(par(clip)).due(due, "clip " + clip, "29 E/o.smil <audio");
        }
    }

    /** Clocks are told by a duration that is 1001 above or below, and by one that is 1000. */
    private void clocks() {
        clock("0", 0);
        clock("5", 5000);
        clock("5s", 5000);
        clock("5.5s", 5500);
        clock("1500ms", 1500);
        clock("1500.999999ms", 1500);
        clock("1.5min", 90000);
        clock("0.000001h", 3);
        clock("999999.999999h", 3599999999996L);
        clock("123456.123456", 123456123);
        clock("00:00", 0);
        clock("59:59", 3599000);
        clock("01:02.5", 62500);
        clock("01:02.123456", 62123);
        clock("0:00:00", 0);
        clock("1:02:03", 3723000);
        clock("12:34:56.789", 45296789);
        clock("9999:59:59.999999", 35999999999L);
        clock("007", 7000);
        String[] wrong = {"x", "1234567", "5.", ".5", "5.1234567", "5 s", "5S", "5hs", "5m", "5sec", "-5", "+5", "1:2", "1:02", "001:02",
            "01:2", "01:002", "60:00", "00:60",
            "00:60:00", "00:00:60", "0:0:00", "10000:00:00", ":00:00", "00:00:", "00:00:00:00", "00:00s", "00:00.", "00:00.1234567",
                "00:00:00.", "00:00:00.x",
            "00:00:00.5s", "1.5:00", "01:00h", "1:00:00:"};
        for (String text : wrong) {
            new Book().meta("property='media:duration'", text).due(due, "clock " + text, "37 E/p.opf <meta property='media");
            body(par("clipEnd='" + text + "'")).due(due, "clipEnd " + text, "29 E/o.smil <audio");
            body(par("clipBegin='" + text + "'")).due(due, "clipBegin " + text, "29 E/o.smil <audio");
        }
    }

    private void clock(String text, long thousandths) {
        for (long change : new long[] {0, 1000, 1001, -1000, -1001}) {
            long to = thousandths + change;
            if (to <= 0 && thousandths != 0 || to < 0 || to > 999999 * 1000L) {
                continue;
            }
            Book book = to == 0 ? new Book() : body(par("clipEnd='" + to / 1000 + "." + String.format("%03d", to % 1000) + "s'"));
            book.meta("property='media:duration'", "\n" + text + " ");
            if (Math.abs(change) > 1000) {
                book.due(due, "clock " + text + " beside " + to, "37 E/p.opf <meta property='media");
            } else {
                book.due(due, "clock " + text + " and " + to);
            }
        }
    }

    private void durations() {
        String one = "property='media:duration' refines='#o'";
        String at = "E/p.opf <meta property='media";
        String five = par("clipBegin='1' clipEnd='3'") + "<seq>" + par("clipEnd='3'") + "</seq>";
        body(five).meta(one, "5").due(due, "of one");
        body(five).meta(one, "6.001").due(due, "of one, beside", "36 " + at);
        body(five).meta(one, "x").due(due, "of one, no clock", "36 " + at);
        body(five).meta(one, " ").due(due, "of one, nothing", "32 " + at, "36 " + at);
        body(five).meta("property='media:duration' refines='#page'", "5").due(due, "of a page", "36 " + at);
        body(five).meta("property='media:duration' refines='#uid'", "5").due(due, "of no item", "36 " + at);
        body(five).meta("property='media:duration' refines='o'", "5").due(due, "of nothing", "33 " + at, "36 " + at);
        body(five).meta("property='media:duration' refines=''", "5").due(due, "of nothing at all", "33 " + at, "36 " + at);
        body(five).meta("property='media:duration'", "5").due(due, "of all");
        body(five).meta("property='media:duration' name='x'", "x").due(due, "no meta of these");
        new Book().meta("property='media:duration'", "1").due(due, "of none");
        new Book().meta("property='media:duration'", "1.001").due(due, "of none, beside", "37 " + at);
        body(five).item("id='o2' href='o.smil' " + ITEM).meta("property='media:duration'", "10")
            .due(due, "an item twice", "61 E/p.opf <item id='o2'");
        body(five).item("id='o2' href='o2.smil' " + ITEM).put("E/o2.smil", SMIL + "<body>" + par("clipEnd='1:00:00'") + "</body></smil>")
            .meta("property='media:duration'", "3605").due(due, "of two");
        body(five).item("id='o2' href='o2.smil' " + ITEM).put("E/o2.smil", SMIL + "<body><par><text src='nav.xhtml'/></par></body></smil>")
            .meta("property='media:duration'", "6.001").due(due, "of two, one of which lasts nothing", "37 " + at);
        body(five).item("id='o2' href='gone' " + ITEM).meta("property='media:duration'", "77").meta(one, "77")
            .due(due, "of one that is missing", "60 E/p.opf <item id='o2'", "36 E/p.opf <meta property='media:duration' refines");
        body(five).item("id='o2' href='gone' " + ITEM).meta("property='media:duration' refines='#o2'", "77")
            .due(due, "not known: missing", "60 E/p.opf <item id='o2'");
        body(five + par("")).meta(one, "77").due(due, "not known: no end");
        body(five + par("clipEnd='x'")).meta(one, "77").due(due, "not known: 29", "29 E/o.smil <audio src='s.mp3' clipEnd='x'");
        body(five + "<seq/>").meta(one, "77").due(due, "not known: 27", "27 E/o.smil <seq/");
        body(five + "<par/>").meta(one, "77").due(due, "not known: 27 of a par", "27 E/o.smil <par/");
        body("<seq/>" + five).meta(one, "77").due(due, "not known: 27 ahead", "27 E/o.smil <seq/");
        body(par("") + five).meta(one, "77").due(due, "not known: no end, ahead");
        Book first = body(five).meta(one, "77");
        first.swap(Book.PACK, "<item id='o' href='o.smil' " + ITEM + "/>\n", "").swap(Book.PACK, "<manifest>\n",
            "<manifest>\n<item id='o' href='o.smil' " + ITEM + "/>\n");
        first.due(due, "the first item", "36 " + at);
        body(five + "<par><text/></par>").meta(one, "77").due(due, "known: 28", "28 E/o.smil <text/", "36 " + at);
        whole("<smil/>").meta(one, "77").due(due, "not known: 26", "26 E/o.smil <");
        whole("<smil/>").meta(one, "x").due(due, "not known, no clock", "26 E/o.smil <", "36 " + at);
        body("<par><text src='nav.xhtml'/></par>").meta(one, "1").due(due, "no audio lasts nothing");
        body("<par><text src='nav.xhtml'/></par>").meta(one, "1.001").due(due, "no audio, beside", "36 " + at);
    }

    private void rootsBeside() {
        String open = "<smil xmlns='http://www.w3.org/ns/SMIL' version='3.0'>";
        String body = "<body>" + par("") + "</body>";
        for (String version : new String[] {"", "3", "3.00", " 3.0", "3.0 ", "2.0"}) {
            whole(open.replace("3.0", version) + body + "</smil>").due(due, "version [" + version + "]", "26 E/o.smil <");
        }
        for (String inside : new String[] {"", "<head/>", "<head/><head/>" + body, body + "<head/>", body + body, "<x/>" + body, body
            + "<x/>", "<head/><x/>" + body, "<head/>" + body + "<x/>", "<head/>" + body + body,
            "<Body/>", "<head>" + body + "</head>", "<x>" + body + "</x>", "<seq>" + par("") + "</seq>", par(""), "<x xmlns='u'/>" + body,
                body + "<x xmlns='u'/>"}) {
            whole(open + inside + "</smil>").due(due, "smil of " + inside, "26 E/o.smil <");
        }
        for (String inside : new String[] {body, "<head/>" + body, "<head><body/><x/>t</head>" + body, "t<!-- c -->" + body + "t"}) {
            whole(open + inside + "</smil>").due(due, "smil of " + inside);
        }
        for (String root : new String[] {"<Smil xmlns='http://www.w3.org/ns/SMIL' version='3.0'/>", "<smil version='3.0'/>",
            "<smil xmlns='http://www.w3.org/ns/smil' version='3.0'/>", "<smil xmlns='http://www.w3.org/2001/SMIL20/' version='3.0'/>"}) {
            whole(root).due(due, root, "26 E/o.smil <");
        }
        whole(open.replace("smil ", "Smil ") + body + "</Smil>").due(due, "another root with a right body", "26 E/o.smil <");
        whole("<smil xmlns='u' version='3.0'>" + body.replace("<body>", "<body xmlns='http://www.w3.org/ns/SMIL'>") + "</smil>")
            .due(due, "a root of another namespace with a right body", "26 E/o.smil <");
        whole(open + "<body xmlns='u'>" + par("").replace("<par>", "<par xmlns='http://www.w3.org/ns/SMIL'>") + "</body></smil>")
            .due(due, "a body of another namespace with right parts", "26 E/o.smil <");
        whole(open.replace("3.0", "3") + "<body><par><text/></par><x/></body></smil>").due(due, "then nothing else", "26 E/o.smil <");
        whole("<s:smil xmlns:s='http://www.w3.org/ns/SMIL' version='3.0'><s:body><s:par><s:text src='nav.xhtml'/></s:par></s:body></s:smil>").due(due, "by a prefix");
    }

    private void partsBeside() {
        for (String inside : new String[] {"t", "<x/>", "<text src='nav.xhtml'/>", "<audio src='s.mp3'/>", "<body/>", "<x xmlns='u'/>",
            "<Par/>", par("") + "<x/>", "<x/>" + par(""), par("") + "<text src='nav.xhtml'/>"}) {
            body(inside).due(due, "a body of " + inside, "27 E/o.smil <body");
            body("<seq>" + inside + "</seq>").due(due, "a seq of " + inside, "27 E/o.smil <seq");
        }
        String text = "<text src='nav.xhtml'/>";
        String audio = "<audio src='s.mp3'/>";
        for (String inside : new String[] {"", "t", audio, text + text, audio + audio, text + audio + audio, text + text + audio, text
            + audio + "<x/>", "<x/>" + text, text + "<par/>", text + "<seq/>", "<text xmlns='u'/>", text + "<audio xmlns='u'/>", "<Text/>",
            text + "<img/>"}) {
            body("<par>" + inside + "</par>").due(due, "a par of " + inside, "27 E/o.smil <par");
        }
        for (String inside : new String[] {text, text + audio, audio + text, "t" + text + "t", "<text src='nav.xhtml'><x/><par/></text>",
            text + "<audio src='s.mp3'><par/></audio>"}) {
            body("<par>" + inside + "</par>").due(due, "a par of " + inside);
        }
        body("<seq><par><text/></par><seq/><x/></seq>").due(due, "what is in a wrong seq isn't looked at", "27 E/o.smil <seq");
        body("<par><text/></par><x/>").due(due, "what is in a wrong body isn't looked at", "27 E/o.smil <body");
        body("<par><text/><audio clipEnd='x'/><x/></par>").due(due, "what is in a wrong par isn't looked at", "27 E/o.smil <par");
        body("<seq/>" + par("") + "<par/>" + par("clipEnd='x'"))
            .due(due, "what is beside a wrong one is", "27 E/o.smil <seq", "27 E/o.smil <par/",
            "29 E/o.smil <audio src='s.mp3' clipEnd='x'");
        body("<seq>".repeat(16) + "<par>" + text + "</par>" + "</seq>".repeat(16)).due(due, "as deep as elements may lie");
        due.is("one deeper", new Desk().report(body("<seq>".repeat(17) + "<par>" + text + "</par>" + "</seq>".repeat(17)).bytes()),
            "31@6:1:" + (SMIL.length() + 6 + 17 * 5 + 5 + 1));
    }

    private void sourcesBeside() {
        for (String src : new String[] {"", " ", "/nav.xhtml", "nav.xhtml?", "x:nav.xhtml", "q", "../E", "..", "../..", "p.opf",
            "../mimetype", "nav.xhtml#?", "%", "NAV.xhtml"}) {
            body("<par><text src='" + src + "'/></par>").due(due, "text src [" + src + "]", "28 E/o.smil <text");
            body("<par><audio src='" + src + "'/><text src='nav.xhtml'/></par>").due(due, "audio src [" + src + "]", "28 E/o.smil <audio");
        }
        for (String src : new String[] {"nav.xhtml", "nav.xhtml#x", "./t/page.xhtml", "../E/s.mp3", "#", "o.smil", "i/pic.png",
            "%6eav.xhtml"}) {
            body("<par><text src='" + src + "'/><audio src='" + src + "'/></par>").due(due, "src " + src);
        }
        body("<par><text Src='nav.xhtml'/><audio xml:src='s.mp3'/></par>").due(due, "no src", "28 E/o.smil <text", "28 E/o.smil <audio");
        body("<par><text/><audio clipBegin='x'/></par>").due(due, "28 and 29", "28 E/o.smil <text", "28 E/o.smil <audio",
            "29 E/o.smil <audio");
        body("<par><text src='s.mp3'/></par>").swap(Book.PACK, "href='s.mp3'", "href='s.mp3#'")
            .due(due, "an item's with 59", "28 E/o.smil <text", "59 E/p.opf <item id='s'", "90 E/s.mp3");
        body("<par><text src='s.mp3'/></par>").drop("E/s.mp3")
            .due(due, "an item's with 60", "28 E/o.smil <text", "60 E/p.opf <item id='s'");
    }

    private void clipsBeside() {
        String at = "29 E/o.smil <audio";
        body(par("clipBegin='0'")).due(due, "a beginning alone");
        body(par("clipBegin='99:59:59'")).due(due, "a late beginning alone");
        body(par("clipEnd='0.001'")).due(due, "the shortest");
        body(par("clipEnd='0'")).due(due, "no length", at);
        body(par("clipBegin='0' clipEnd='0'")).due(due, "no length from 0", at);
        body(par("clipBegin='1' clipEnd='1.001'")).due(due, "a thousandth above");
        body(par("clipBegin='1.001' clipEnd='1'")).due(due, "a thousandth below", at);
        body(par("clipBegin='1.0005' clipEnd='1.0009'")).due(due, "less than a thousandth", at);
        body(par("clipBegin='1.0009' clipEnd='1.001'")).due(due, "over a thousandth's border");
        body(par("clipBegin='60' clipEnd='1min'")).due(due, "the same in another way", at);
        body(par("clipBegin='59:59.999' clipEnd='1h'")).due(due, "a thousandth above in another way");
        body(par("clipBegin='x' clipEnd='y'")).due(due, "neither", at);
        body(par("clipBegin='' clipEnd='1'")).due(due, "an empty beginning", at);
        body(par("clipBegin='0' clipEnd=''")).due(due, "an empty end", at);
        body(par("ClipEnd='x' xml:clipBegin='x'")).due(due, "others aren't looked at");
        body("<par><text src='nav.xhtml' clipBegin='x' clipEnd='y'/></par>").due(due, "a text's aren't looked at");
    }

    private void clocksBeside() {
        String at = "29 E/o.smil <audio";
        String[] right = {"1", "123456", "1.1", "123456.123456", "1h", "1min", "1s", "1ms", "999999h", "1.000001h", "1.5min", "1.5s",
            "1.5ms", "0:00:01", "00:00:01", "000:00:01", "9999:59:59", "00:01", "59:59", "00:00.001", "0:00:00.001", "1:00:00.123456",
            "00:01.1"};
        for (String clock : right) {
            body(par("clipEnd='" + clock + "'")).due(due, "clock " + clock);
        }
        String[] wrong = {"", " ", "/", "1/", "/1", "1/1", "1.5/", "00:0/", "0/:00", "0:00:0/", "1:", "1;", "1.:", "1234567", "0000001",
            "1.", ".1", ".", "1.1234567", "1..1", "1.1.1", "1,1", "1 ", " 1", "1 s", "1S",
            "1H", "1MIN", "1MS", "1m", "1mi", "1mins", "1sec", "1hs", "1msx", "1d", "-1", "+1", "1e3", "0x1", "s", "ms", "h",
            ":", "::", "1:", ":1", "0:01", "000:01", "1:1", "00:1", "00:001", "60:00", "99:00", "00:60", "00:99", "10000:00:00", ":00:00",
                "00000:00:01", "1:0:01", "1:00:1", "1:000:01", "1:00:001", "1:60:00", "1:00:60", "1:00:00:00", "00:00:", "00:01s",
                "1:00:00h",
            "00:01.", "00:01.1234567", "0:00:01.", "0:00:01.1234567", "00:01.1s", "0:00.5:01", "0.5:01", "00.5:01", "00:01 ", " 00:01",
                "00 :01", "\u0661", "1\u00a0", "12:34:56x", "12:34x"};
        for (String clock : wrong) {
            body(par("clipEnd='" + clock + "'")).due(due, "clock [" + clock + "]", at);
            body(par("clipBegin='" + clock + "' clipEnd='999999h'")).due(due, "clock [" + clock + "], a beginning", at);
        }
    }

    private void lasts(String clip, String told, boolean right) {
        Book book = body(par(clip)).meta("property='media:duration'", told);
        if (right) {
            book.due(due, clip + " lasts about " + told);
        } else {
            book.due(due, clip + " doesn't last about " + told, "37 E/p.opf <meta property='media");
        }
    }

    /** In thousandths; a clock that is told may differ from what is due by 1000 of them, and by no more. */
    private void whatIsLessIsCutOff() {
        lasts("clipEnd='5'", "4", true);
        lasts("clipEnd='5'", "3.999", false);
        lasts("clipEnd='5'", "6", true);
        lasts("clipEnd='5'", "6.001", false);
        lasts("clipEnd='5'", "6.000999", true);
        lasts("clipEnd='5'", "3.9999", false);
        lasts("clipEnd='5.0009'", "4", true);
        lasts("clipEnd='5.001'", "4", false);
        lasts("clipEnd='0.000001h'", "1.003", true);
        lasts("clipEnd='0.000001h'", "1.004", false);
        lasts("clipEnd='0.00002min'", "1.001", true);
        lasts("clipEnd='0.00002min'", "1.002", false);
        lasts("clipEnd='1.999999ms'", "1.001", true);
        lasts("clipEnd='1.999999ms'", "1.002", false);
        lasts("clipEnd='00:00.0019'", "1.001", true);
        lasts("clipEnd='00:00.0019'", "1.002", false);
        lasts("clipEnd='999999.999999h'", "999999.999999h", true);
        lasts("clipEnd='999999.999999h'", "999999.9997h", false);
        lasts("clipEnd='9999:59:59.999'", "9999:59:58.999", true);
        lasts("clipEnd='9999:59:59.999'", "9999:59:58.998", false);
        lasts("clipBegin='0.0009' clipEnd='1.0001'", "2", true);
        lasts("clipBegin='0.0009' clipEnd='1.0001'", "2.001", false);
        lasts("clipBegin='1h' clipEnd='61min'", "61", true);
        lasts("clipBegin='1h' clipEnd='61min'", "61.001", false);
    }

    private void sums() {
        StringBuilder many = new StringBuilder();
        for (int i = 0; i < 60; i++) {
            many.append(par("clipEnd='999999h'"));
        }
        body(many.toString()).meta("property='media:duration' refines='#o'", "999999h")
            .due(due, "more than a clock can tell", "36 E/p.opf <meta property='media");
        String three = "<seq>" + par("clipEnd='1'") + "<seq>" + par("clipBegin='1' clipEnd='2'") + "</seq></seq>" + par("clipEnd='1ms'");
        body(three).meta("property='media:duration' refines='#o'", "3.001").due(due, "of three, just");
        body(three).meta("property='media:duration' refines='#o'", "3.002")
            .due(due, "of three, beside", "36 E/p.opf <meta property='media");
        body(three).meta("property='media:duration' refines='#o'", "1.001").due(due, "of three, just below");
        body(three).meta("property='media:duration' refines='#o'", "1")
            .due(due, "of three, beside below", "36 E/p.opf <meta property='media");
    }

    private void notKnown() {
        String one = "property='media:duration' refines='#o'";
        String all = "property='media:duration'";
        String five = par("clipEnd='5'");
        due.is("not parsed", new Desk().report(whole(SMIL).meta(one, "77").meta(all, "77").bytes()), "30@6:1:" + (SMIL.length() + 1));
        Zip zip = body(five).meta(one, "77").meta(all, "77").zip();
        zip.entries.get(6).flags = 1;
        due.is("not read", new Desk().report(zip.bytes()), "13@6:0:0");
        body(five).swap(Book.PACK, "href='o.smil'", "href='o.smil#'").meta(one, "77").meta(all, "77")
            .due(due, "59", "59 E/p.opf <item id='o'", "90 E/o.smil");
        body(five).drop("E/o.smil").meta(one, "77").meta(all, "77").due(due, "60", "60 E/p.opf <item id='o'");
        whole("<x/>").meta(one, "77").meta(all, "77").due(due, "26", "26 E/o.smil <x");
        body(five + "<par/>").meta(one, "77").meta(all, "77").due(due, "27", "27 E/o.smil <par/");
        body(five + par("clipBegin='x'")).meta(one, "77").meta(all, "77").due(due, "29", "29 E/o.smil <audio src='s.mp3' clipBegin");
        body(five + par("clipBegin='1'")).meta(one, "77").meta(all, "77").due(due, "an audio without an end");
        body(five + "<par><text/></par>").meta(one, "77").due(due, "28 is known", "28 E/o.smil <text/", "36 E/p.opf <meta property='media");
        body(five + "<par><text src='nav.xhtml'/></par>").meta(one, "77")
            .due(due, "a par without an audio is known", "36 E/p.opf <meta property='media");
        for (String text : new String[] {"", "x", "1:1", "5 5"}) {
            Book book = whole("<x/>").meta(one, text).meta(all, text);
            String first = " E/p.opf <meta property='media:duration' refines";
            String second = " E/p.opf <meta property='media:duration'>" + text + "<";
            if (text.isEmpty()) {
                book.due(due, "no clock is told all the same", "26 E/o.smil <x", "32" + first, "36" + first, "32" + second, "37" + second);
            } else {
                book.due(due, "no clock is told all the same, " + text, "26 E/o.smil <x", "36" + first, "37" + second);
            }
        }
    }

    private void ofAll() {
        String all = "property='media:duration'";
        String at = "37 E/p.opf <meta property='media";
        new Book().meta(all, "1").due(due, "of none");
        new Book().meta(all, "1.001").due(due, "of none, beside", at);
        new Book().meta(all, "0").due(due, "of none, nothing");
        Book two = body(par("clipEnd='5'")).item("id='o2' href='o2.smil' " + ITEM).put("E/o2.smil", SMIL + "<body>" + par("clipEnd='7'")
            + "</body></smil>");
        two.meta(all, "13").due(due, "of two, just");
        two.meta(all, "13.001").due(due, "of two, one told beside", "37 E/p.opf <meta property='media:duration'>13.001");
        body(par("clipEnd='5'")).item("href='gone' " + ITEM).meta(all, "6.001")
            .due(due, "an item with 57 is none", "57 E/p.opf <item href='gone'", at);
        body(par("clipEnd='5'")).item("id='o2' href='o.smil' " + ITEM).meta(all, "11")
            .due(due, "two items of one entry", "61 E/p.opf <item id='o2'");
        body(par("clipEnd='5'")).item("id='o2' href='o.smil' " + ITEM).meta(all, "11.001")
            .due(due, "two items of one entry, beside", "61 E/p.opf <item id='o2'", at);
        body(par("clipEnd='5'")).item("id='o2' href='o2.smil' " + ITEM).put("E/o2.smil", "<x/>").meta(all, "77")
            .meta("property='media:duration' refines='#o'", "77")
            .due(due, "one that isn't known makes all not known", "26 E/o2.smil <x", "36 E/p.opf <meta property='media:duration' refines");
        body(par("clipEnd='5'")).item("id='o2' href='../..' " + ITEM).meta(all, "77")
            .due(due, "one with 59 makes all not known", "59 E/p.opf <item id='o2'");
        body(par("clipEnd='5'")).swap(Book.PACK, "application/smil+xml", "application/smil").meta(all, "1")
            .due(due, "one of another type is none");
    }

    private void toldInThePackage() {
        String at = "36 E/p.opf <meta property='media";
        String five = par("clipEnd='5'");
        for (String refines : new String[] {"#page", "#uid", "#s"}) {
            body(five).meta("property='media:duration' refines='" + refines + "'", "5").due(due, "refines " + refines, at);
        }
        for (String refines : new String[] {"", "#", "o", "#O", "##o", "#o ", " #o", "o.smil"}) {
            body(five).meta("property='media:duration' refines='" + refines + "'", "5")
                .due(due, "refines [" + refines + "]", at, "33 E/p.opf <meta property='media");
        }
        body(five).item("id='m' " + ITEM).meta("property='media:duration' refines='#m'", "5")
            .due(due, "refines an item with 57", at, "57 E/p.opf <item id='m'");
        body(five).swap(Book.PACK, "<dc:title>", "<dc:title id='o'>").meta("property='media:duration' refines='#o'", "5")
            .due(due, "refines the first with the id, which is no item", at, "58 E/p.opf <item id='o'");
        body(five).meta("property='media:duration' refines='#o'", "&#9; 5 \n").due(due, "blanks at both ends");
        body(five).meta("property='media:duration' refines='#o'", "5" + " ".repeat(60)).due(due, "many blanks behind");
        body(five).meta("property='media:duration' refines='#o'", "5" + " ".repeat(60) + "x").due(due, "something behind them", at);
        body(five).meta("property='media:duration' refines='#o'", "0".repeat(60)).due(due, "many digits", at);
        body(five).meta("property='media:duration' refines='#o'", "<x>x</x>5").due(due, "its own text");
        body(five).meta("property='media:Duration' refines='#o'", "x").due(due, "another property");
        body(five).meta("property='media:duration ' refines='#o'", "x").due(due, "another property, with a blank");
        body(five).meta("property='media:duration' name='' refines='#o'", "x").due(due, "one with a name is no meta");
        body(five).swap(Book.PACK, "</metadata>", "<x><meta property='media:duration'>x</meta></x></metadata>")
            .due(due, "one deeper is none");
        body(five).meta("property='media:duration' refines='#o' id='m'", "5").meta("property='media:duration' refines='#m'", "5")
            .due(due, "by another meta", "36 E/p.opf <meta property='media:duration' refines='#m'");
    }

    /** A clock ends where its value ends. */
    private void endsOfValues() {
        for (String behind : new String[] {":00", ":", "0", ".5", "s", "ms", "h", "5", " "}) {
            body(par("clipEnd='5' x='" + behind + "'")).due(due, "5 ahead of " + behind);
            body(par("clipEnd='00:05' x='" + behind + "'")).due(due, "00:05 ahead of " + behind);
            body(par("clipEnd='0:00:05' x='" + behind + "'")).due(due, "0:00:05 ahead of " + behind);
            body(par("clipEnd='5.' x='" + behind + "'")).due(due, "5. ahead of " + behind, "29 E/o.smil <audio");
            body(par("clipEnd='00:05.' x='" + behind + "'")).due(due, "00:05. ahead of " + behind, "29 E/o.smil <audio");
            body(par("clipEnd='00:' x='" + behind + "'")).due(due, "00: ahead of " + behind, "29 E/o.smil <audio");
            body(par("clipEnd='00:0' x='" + behind + "'")).due(due, "00:0 ahead of " + behind, "29 E/o.smil <audio");
            body(par("clipEnd='5m' x='" + behind + "'")).due(due, "5m ahead of " + behind, "29 E/o.smil <audio");
            body(par("clipEnd='' x='" + behind + "'")).due(due, "nothing ahead of " + behind, "29 E/o.smil <audio");
        }
    }

    /** An overlay that is the archive's first entry. */
    private void firstEntry() {
        for (String inside : new String[] {par("clipEnd='5'"), par("clipEnd='5'") + "<par/>", par("clipEnd='77'")}) {
            Book book = body(inside).meta("property='media:duration' refines='#o'", "77").meta("property='media:duration'", "77")
                .drop("mimetype");
            java.util.Map<String, String> old = new java.util.LinkedHashMap<>(book.files);
            book.files.clear();
            book.files.put("E/o.smil", old.get("E/o.smil"));
            book.files.putAll(old);
            if (inside.contains("<par/>")) {
                book.due(due, "wrong, and so not known", "20 -", "27 E/o.smil <par/");
            } else if (inside.contains("77")) {
                book.due(due, "right", "20 -");
            } else {
                book.due(due, "of another length", "20 -", "36 E/p.opf <meta property='media:duration' refines",
                    "37 E/p.opf <meta property='media:duration'>");
            }
        }
    }

    /** An overlay that is the manifest's first item. */
    private void firstItem() {
        String item = "<item id='o' href='o.smil' " + ITEM + "/>\n";
        for (String told : new String[] {"5", "77"}) {
            Book book = body(par("clipEnd='5'")).meta("property='media:duration' refines='#o'", told).meta("property='media:duration'",
                told);
            book.swap(Book.PACK, item, "").swap(Book.PACK, "<manifest>\n", "<manifest>\n" + item);
            if (told.equals("5")) {
                book.due(due, "the first item, right");
            } else {
                book.due(due, "the first item, beside", "36 E/p.opf <meta property='media:duration' refines",
                    "37 E/p.opf <meta property='media:duration'>");
            }
        }
    }

    /** As many elements as there may be: each of 99 pars is looked at. */
    private void fullSize() {
        StringBuilder inside = new StringBuilder();
        for (int i = 0; i < 99; i++) {
            inside.append("<par><text src='#'/><audio src='#' clipEnd='1'/></par>");
        }
        whole(SMIL + "<body>" + inside + "</body></smil>").meta("property='media:duration'", "100").due(due, "99 pars");
        whole(SMIL + "<body>" + inside + "</body></smil>").meta("property='media:duration'", "100.001")
            .due(due, "99 pars, beside", "37 E/p.opf <meta property='media");
        due.is("one more element", new Desk().check(whole(SMIL + "<head/><body>" + inside + "</body></smil>").bytes()), 0);
        Desk desk = new Desk();
        desk.check(whole(SMIL + "<head/><body>" + inside + "<seq/></body></smil>").bytes());
        due.is("two more elements", desk.message(0, 0), 31);
    }
}
