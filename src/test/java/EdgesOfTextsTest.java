/** The bounds of promises 6 to 8: the tape, texts, their faults and what they tell, a test for each sentence. */
public final class EdgesOfTextsTest {
    private static final Check CHECK = new Check("EdgesOfTextsTest");
    private static final int BAD = AsLastTime.BAD, FULL = AsLastTime.FULL;
    private static final String REST = ";evens 1;minds 1;";

    public static void main(String[] args) {
        tapeOf160();
        bytes();
        fourDigits();
        asLongAsCanBe();
        blanks();
        tokensThatBeginNone();
        bytesThatGoOn();
        endsTooEarly();
        endsWhereItEnds();
        firstThatCannotStand();
        perhapsOne();
        fiveOpen();
        openTillTheyEnd();
        sixTexts();
        fullAheadOfAll();
        emptyByAFault();
        faultsLeaveNothing();
        forced();
        tellsOneOrZero();
        wraps();
        toldWithinBounds();
        mindsKnowNoVisit();
        growsAndEvensKnowTheVisit();
        evensOfTheLesserPlace();
        textZero();
        CHECK.end();
    }

    private static int fault(String text) {
        return Salons.read(new AsLastTime(), text);
    }

    private static String padded(String text, int size) {
        StringBuilder padded = new StringBuilder(text);
        while (padded.length() < size) {
            padded.append(' ');
        }
        return padded.toString();
    }

    /** "THE TAPE, 160 bytes at most" */
    private static void tapeOf160() {
        AsLastTime x = new AsLastTime();
        String text = padded("grows 7;evens 1;minds 1", 159);
        for (int i = 0; i < 159; i++) {
            CHECK.due("byte " + i, x.feed(text.charAt(i)), i + 1);
        }
        CHECK.due("byte 159", x.feed(';'), 160);
        CHECK.due("byte 160", x.feed('x'), FULL);
        CHECK.due("it has 160", x.count(3), 160);
        CHECK.due("what was refused is not on it", x.text(), 1);
        CHECK.due("it is empty", x.count(3), 0);
        CHECK.due("it has room again", x.feed('g'), 1);
        CHECK.due("its last byte is read", fault(padded("grows 7;evens 1;minds 1;", 159) + "@"), -259);
    }

    /** "A byte (0 .. 255)" */
    private static void bytes() {
        AsLastTime x = new AsLastTime();
        for (int letter : new int[] {-1, 256, -256, Integer.MIN_VALUE, Integer.MAX_VALUE}) {
            CHECK.due("feed(" + letter + ")", x.feed(letter), BAD);
        }
        CHECK.due("none came", x.count(3), 0);
        CHECK.due("feed(0)", x.feed(0), 1);
        CHECK.due("feed(255)", x.feed(255), 2);
        CHECK.due("feed(128)", x.feed(128), 3);
        CHECK.due("256 more than a letter is none", fault("grows 1" + (char) 255 + REST), -107);
        for (int letter = 0; letter < 256; letter++) {
            boolean begins = letter == 32 || letter == 10;
            AsLastTime y = new AsLastTime();
            for (char c : "grows 1;evens 1;minds 1;".toCharArray()) {
                y.feed(c);
            }
            y.feed(letter);
            CHECK.due("behind a text byte " + letter, y.text(), begins ? 1 : -124);
        }
    }

    /** "NUMBERS (as many digits as stand there, 4 at most)"; "a NUMBER that is too long" */
    private static void fourDigits() {
        CHECK.due("9999", fault("grows 9999" + REST), 1);
        CHECK.due("10000", fault("grows 10000" + REST), -106);
        CHECK.due("00001", fault("grows 00001" + REST), -106);
        CHECK.due("0001", value("0001"), 1);
        CHECK.due("0099", value("0099"), 99);
        CHECK.due("9999 is so much", value("9999=9*1111"), 1);
        CHECK.due("1000 is so much", value("1000=10*10*10"), 1);
        CHECK.due("the fault of a long one is where it begins", fault("grows 1+ 123456789 " + REST), -109);
        CHECK.due("a long one where none can stand", fault("grows 1 12345" + REST), -108);
        CHECK.due("two numbers are not one", fault("grows 1234 5" + REST), -111);
        CHECK.due("a very long one", fault("grows " + padded("", 100).replace(' ', '7') + REST), -106);
    }

    /** "TOKENS, each as long as can be" */
    private static void asLongAsCanBe() {
        CHECK.due("ornot", fault("grows 1 ornot 1" + REST), -108);
        CHECK.due("notnot", fault("grows notnot 1" + REST), -106);
        CHECK.due("growslength", fault("growslength" + REST), -100);
        CHECK.due("weeksand", fault("grows weeksand 1" + REST), -106);
        CHECK.due("not(", fault("grows not(1)or(2)and not 3" + REST), 1);
        CHECK.due("1or1", fault("grows 1or 1and 1" + REST), 1);
        CHECK.due("length1", fault("grows length1" + REST), -112);
        CHECK.due("lengthlength", fault("grows lengthlength" + REST), -106);
        CHECK.due("<=", fault("grows 1<=2" + REST), -108);
        CHECK.due("==", fault("grows 1==2" + REST), -108);
        CHECK.due("--", fault("grows 1--2" + REST), 1);
        CHECK.due(";;", fault("grows 1;;evens 1;minds 1;"), -108);
    }

    /** "blanks (32, 10) may stand between" */
    private static void blanks() {
        CHECK.due("within a word", fault("grows len gth" + REST), -106);
        CHECK.due("within a key", fault("gro ws 1" + REST), -100);
        CHECK.due("within a number", fault("grows 1 0" + REST), -108);
        CHECK.due("ahead", fault(" \n grows 1" + REST), 1);
        CHECK.due("behind", fault("grows 1" + REST + "\n \n"), 1);
        CHECK.due("many", fault("grows \n\n  ( \n 1 ) \n\n < 2" + REST), 1);
        for (int none : new int[] {9, 11, 13, 31, 33, 0, 160}) {
            CHECK.due(none + " is no blank", fault("grows 1" + (char) none + REST), -107);
            CHECK.due(none + " is no blank", fault((char) none + "grows 1" + REST), -100);
        }
    }

    /** "also of a byte that begins none, a WORD that is neither KEY nor NAME" */
    private static void tokensThatBeginNone() {
        for (int letter = 0; letter < 256; letter++) {
            boolean inAnE = letter >= '0' && letter <= '9';
            boolean ends = letter == ';';
            boolean blank = letter == 32 || letter == 10;
            int due = inAnE ? 1 : ends ? -106 : blank ? -107 : letter == '(' || letter == '-' ? -107 : -106;
            CHECK.due("byte " + letter + " for an E", fault("grows " + (char) letter + REST), due);
        }
        String[] names = {"length", "last", "want", "weeks", "place", "hand"};
        for (String name : names) {
            CHECK.due(name, fault("grows " + name + REST), 1);
            CHECK.due(name + " and a letter more", fault("grows " + name + "a" + REST), -106);
            CHECK.due(name + ", a letter less", fault("grows " + name.substring(1) + REST), -106);
            CHECK.due(name + ", another first letter", fault("grows x" + name.substring(1) + REST), -106);
            CHECK.due(name + ", the last letter less",
                    fault("grows " + name.substring(0, name.length() - 1) + REST), -106);
            CHECK.due(name + " is no key", fault(name + " 1" + REST), -100);
        }
        for (String key : new String[] {"grows", "evens", "minds", "or", "and"}) {
            CHECK.due(key + " is no name", fault("grows " + key + REST), -106);
        }
        CHECK.due("not is no name", fault("grows not" + REST), -109);
    }

    /** Only a .. z go on in a WORD, only 0 .. 9 in a NUMBER. */
    private static void bytesThatGoOn() {
        for (int letter = 0; letter < 256; letter++) {
            boolean inAWord = letter >= 'a' && letter <= 'z';
            boolean inANumber = letter >= '0' && letter <= '9';
            boolean blank = letter == 32 || letter == 10;
            int behindAWord = inAWord ? -106 : blank ? 1 : -112;
            int behindANumber = inANumber || blank ? 1 : -107;
            if ("<=+*-;".indexOf(letter) >= 0) {
                // it may stand there, but no ; behind it
                behindAWord = -113;
                behindANumber = -108;
            }
            CHECK.due("behind a word byte " + letter, fault("grows length" + (char) letter + REST), behindAWord);
            CHECK.due("behind a number byte " + letter, fault("grows 1" + (char) letter + REST), behindANumber);
        }
    }

    /** "the text's size, if it ends too early" */
    private static void endsTooEarly() {
        CHECK.due("an empty tape", new AsLastTime().text(), -100);
        String whole = "grows not (1 < -2) ;\nevens 3 or 4 ; minds last ;";
        for (int size = 0; size < whole.length(); size++) {
            String part = whole.substring(0, size);
            boolean halfAWord = size > 0 && Character.isLetter(whole.charAt(size - 1))
                    && Character.isLetter(whole.charAt(size));
            if (!halfAWord) {
                CHECK.due("the first " + size + " bytes", fault(part), -100 - size);
                CHECK.due("the first " + size + " bytes, and blanks", fault(part + "  \n"), -103 - size);
            }
        }
        CHECK.due("the whole", fault(whole), 1);
        CHECK.due("a full tape that ends too early", fault(padded("grows 1;evens 1;minds 1", 160)), -260);
        CHECK.due("a full tape of blanks", fault(padded("", 160)), -260);
        for (String last : new String[] {"grows", "grows 1", "grows 1234", "grows length", "grows 1+", "grows not"}) {
            CHECK.due("a full tape that ends with " + last, fault(padded("", 160 - last.length()) + last), -260);
        }
        CHECK.due("a full tape that ends with a long number", fault(padded("grows", 150) + "0123456789"), -250);
        CHECK.due("a full tape that ends with no word", fault(padded("grows", 150) + "lengthhand"), -250);
        CHECK.due("a full tape that ends with its last ;", fault(padded("grows 1;evens 1;minds 1", 159) + ";"), 1);
    }

    /** What was read ahead of it is not behind a text's end. */
    private static void endsWhereItEnds() {
        String[] ahead = {"grows 123", "grows weeks", "grows 1+1", "grows 1;evens 1;minds 1;"};
        String[] then = {"grows 1", "grows we", "grows 1", "grows 1;evens 1;minds 1"};
        int[] due = {-107, -106, -107, -123};
        for (int i = 0; i < ahead.length; i++) {
            AsLastTime x = new AsLastTime();
            Salons.read(x, ahead[i]);
            CHECK.due(then[i] + " behind " + ahead[i], Salons.read(x, then[i]), due[i]);
        }
    }

    /** "the place of the first byte of the first TOKEN that can't stand there" */
    private static void firstThatCannotStand() {
        String[] tokens = {"grows", "1", ";", "evens", "1", ";", "minds", "1", ";"};
        for (int at = 0; at < tokens.length; at++) {
            StringBuilder without = new StringBuilder();
            StringBuilder twice = new StringBuilder();
            int place = 0;
            for (int i = 0; i < tokens.length; i++) {
                if (i == at) {
                    place = without.length();
                }
                without.append(i == at ? "" : tokens[i] + " ");
                twice.append(tokens[i]).append(' ').append(i == at ? tokens[i] + " " : "");
            }
            CHECK.due("without token " + at, fault(without.toString()), -100 - place);
            int second = place + tokens[at].length() + 1;
            CHECK.due("token " + at + " twice", fault(twice.toString()), -100 - second);
        }
        CHECK.due("the first of two", fault("grows 1 ) ( 12345 @"), -108);
        CHECK.due("behind a text", fault("grows 1" + REST + " 12345"), -125);
    }

    /** "SUM, perhaps < or = and a SUM" */
    private static void perhapsOne() {
        CHECK.due("one <", fault("grows 1<2" + REST), 1);
        CHECK.due("two <", fault("grows 1<2<3" + REST), -109);
        CHECK.due("< and =", fault("grows 1<2=3" + REST), -109);
        CHECK.due("= and =", fault("grows 1=2=3" + REST), -109);
        CHECK.due("each in its own not", fault("grows 1<2 and 2=3 or not 3<4" + REST), 1);
        CHECK.due("each in its own (", fault("grows (1<2)<(2=3)" + REST), 1);
        CHECK.due("not is none of a SUM", fault("grows 1+not 2" + REST), -108);
        CHECK.due("not is none behind <", fault("grows 1<not 2" + REST), -108);
        CHECK.due("not is none behind -", fault("grows -not 2" + REST), -107);
        CHECK.due("not is one behind (", fault("grows -(not 2)" + REST), 1);
    }

    /** "a ( , a not, a - ahead of a ONE while 5 of these are open" */
    private static void fiveOpen() {
        String[][] five = {{"(((((", ")))))"}, {"not not not not not ", ""}, {"-----", ""},
            {"not (-(-", "))"}, {"-(not (not ", "))"}};
        String[][] sixth = {{"(", ")"}, {"not ", ""}, {"-", ""}};
        for (String[] open : five) {
            CHECK.due("five open: " + open[0], fault("grows " + open[0] + "1" + open[1] + REST), 1);
            for (String[] more : sixth) {
                CHECK.due("six open: " + open[0] + more[0],
                        fault("grows " + open[0] + more[0] + "1" + more[1] + open[1] + REST),
                        -106 - open[0].length());
            }
        }
        CHECK.due("a - between two is not open", fault("grows (((((1-1-1)))))" + REST), 1);
        CHECK.due("a - ahead of a ONE behind a - is", fault("grows (((((1--1)))))" + REST), -113);
        CHECK.due("a - ahead of a ONE behind a * is", fault("grows (((((1*-1)))))" + REST), -113);
        CHECK.due("in evens, too", fault("grows 1;evens ((((((1))))));minds 1;"), -119);
        CHECK.due("in minds, too", fault("grows 1;evens 1;minds ------1;"), -127);
        CHECK.due("each E has its five", fault("grows (((((1)))));evens -----1;minds (((((1)))));"), 1);
    }

    /** "a ( till its ) , not and - till what they belong to ends" */
    private static void openTillTheyEnd() {
        CHECK.due("( is ended by its )", fault("grows (((((1)))))+(((((1)))))" + REST), 1);
        CHECK.due("one ( is left open", fault("grows ((((1))) + ((((1)))))" + REST), 1);
        CHECK.due("two ( are left open", fault("grows (((((1))) + ((((1))))))" + REST), -121);
        CHECK.due("- ends with its ONE", fault("grows -----1 + -----1 * -----1" + REST), 1);
        CHECK.due("- ends with its ( )", fault("grows ----(1) - ----(1)" + REST), 1);
        CHECK.due("- is open in its ( )", fault("grows ----(-1)" + REST), -111);
        CHECK.due("not ends ahead of and", fault("grows not not not not not 1 and (((((1)))))" + REST), 1);
        CHECK.due("not ends ahead of or", fault("grows not not not not not 1 or -----1" + REST), 1);
        CHECK.due("not is open behind <", fault("grows not 1 < (((((1)))))" + REST), -118);
        CHECK.due("not is open behind +", fault("grows not 1 + -----1" + REST), -118);
        CHECK.due("not is open behind *", fault("grows not 1 * ----1 = (((((1)))))" + REST), -126);
        CHECK.due("not with four behind it", fault("grows not 1 + ----1 < ((((1))))" + REST), 1);
        CHECK.due("a not in ( ) ends by )", fault("grows (not not not not 1) + (((((1)))))" + REST), 1);
    }

    /** "There are 6 TEXTS at most, TEXT 0 with them" */
    private static void sixTexts() {
        AsLastTime x = new AsLastTime();
        for (int text = 1; text <= 5; text++) {
            CHECK.due("so many texts", x.count(2), text);
            CHECK.due("text " + text + " is not there yet", x.force(text), BAD);
            CHECK.due("text " + text, Salons.read(x, "grows " + text + REST), text);
        }
        CHECK.due("the seventh", Salons.read(x, "grows 6" + REST), FULL);
        CHECK.due("six texts", x.count(2), 6);
        CHECK.due("text 6 is not there", x.force(6), BAD);
        x.hand(0, 0, 199);
        x.visit(0, 0);
        for (int text = 1; text <= 5; text++) {
            x.force(text);
            CHECK.due("grows by text " + text, x.once(0, 0), 40 + text);
        }
    }

    /** "FULL (ahead of all): no TEXT more has room (THE TAPE stays)" */
    private static void fullAheadOfAll() {
        AsLastTime x = new AsLastTime();
        for (int text = 1; text <= 5; text++) {
            Salons.read(x, "grows " + text + REST);
        }
        CHECK.due("of an empty tape", x.text(), FULL);
        CHECK.due("of a fault", Salons.read(x, "@"), FULL);
        CHECK.due("the tape stays", x.count(3), 1);
        CHECK.due("and goes on", x.feed('g'), 2);
        CHECK.due("again", x.text(), FULL);
        CHECK.due("the tape stays", x.count(3), 2);
    }

    /** "THE TAPE, which is empty then (by a FAULT, too)" */
    private static void emptyByAFault() {
        AsLastTime x = new AsLastTime();
        CHECK.due("a fault", Salons.read(x, "grows 1;evens 1;minds 1"), -123);
        CHECK.due("empty", x.count(3), 0);
        CHECK.due("what stood there does not stand ahead", Salons.read(x, ";"), -100);
        CHECK.due("empty", x.count(3), 0);
        CHECK.due("a text", Salons.read(x, "grows 1" + REST), 1);
        CHECK.due("empty", x.count(3), 0);
        CHECK.due("nothing is read twice", x.text(), -100);
        CHECK.due("two texts", x.count(2), 2);
    }

    /** A FAULT is no TEXT: it takes no number, tells nothing and leaves nothing. */
    private static void faultsLeaveNothing() {
        AsLastTime x = Salons.plain(199, 1);
        String sums = "1";
        while (sums.length() < 120) {
            sums += "+1";
        }
        for (int i = 0; i < 2; i++) {
            CHECK.due("a long fault", Salons.read(x, "grows " + sums + ";evens 1;minds 1;)"), -244);
            CHECK.due("one text", x.count(2), 1);
            CHECK.due("none to be forced", x.force(1), BAD);
        }
        CHECK.due("then a text", Salons.read(x, "grows 5;evens 2;minds 3;"), 1);
        x.force(1);
        CHECK.due("grows", x.once(0, 0), 45);
        CHECK.due("minds", x.once(0, 5), 4 * 5 * 3);
        AsLastTime y = Salons.plain(199, 1);
        Salons.sheet(y, 0, 1, 47);
        CHECK.due("a fault that would grow by 7", Salons.read(y, "grows 7;evens 1;minds 1;("), -124);
        CHECK.due("is not seen", y.seen(0, 0, 5, 0), 0);
        Salons.sheet(y, 0, 1, 40);
        CHECK.due("nor is a text that is not there", y.seen(0, 0, 5, 0), 1);
    }

    /** "A TEXT is THE RULE: which was. BAD." */
    private static void forced() {
        AsLastTime x = new AsLastTime();
        CHECK.due("force(0)", x.force(0), 0);
        CHECK.due("force(1) of one", x.force(1), BAD);
        Salons.read(x, "grows 1" + REST);
        CHECK.due("force(1)", x.force(1), 0);
        CHECK.due("force(2) of two", x.force(2), BAD);
        CHECK.due("force(-1)", x.force(-1), BAD);
        CHECK.due("the rule", x.count(4), 1);
        CHECK.due("force(1) again", x.force(1), 1);
        CHECK.due("force(0)", x.force(0), 1);
    }

    /** What an E is, as far as it is 0 to 99. */
    private static int value(String e) {
        return Salons.ruled(Salons.plain(199, 1), "grows " + e + ";evens 99;minds 1;").once(0, 0) - 40;
    }

    /** "of or, and, not, <, = 1 or 0 (what is not 0 is true)" */
    private static void tellsOneOrZero() {
        String[] falses = {"0 or 0", "0 and 0", "0 and 5", "5 and 0", "not 5", "not -1", "not not 0", "2<2", "3<2",
            "2=3", "-1<-1", "0<-1"};
        String[] trues = {"5 or 0", "0 or 7", "8 or 9", "-1 or 0", "5 and 7", "2 and 1", "-1 and -4", "not 0",
            "not not 7", "not not -7", "1<2", "-2<-1", "2=2", "-2=-2", "0=0"};
        for (String e : falses) {
            CHECK.due(e + " is 0", value("(" + e + ")+7"), 7);
            CHECK.due(e + " is 0, as it stands", value(e), 0);
        }
        for (String e : trues) {
            CHECK.due(e + " is 1", value("(" + e + ")+7"), 8);
            CHECK.due(e + " is 1, as it stands", value(e), 1);
        }
        CHECK.due("one alone stays what it is", value("(7)"), 7);
    }

    /** "An E is an int (32 bits, wrapping)" */
    private static void wraps() {
        String most = "(2048*1024*1024-1)";
        String least = "(2048*1024*1024)";
        CHECK.due("most + 1 = least", value(most + "+1=" + least), 1);
        CHECK.due("least - 1 = most", value(least + "-1=" + most), 1);
        CHECK.due("- least = least", value("-" + least + "=" + least), 1);
        CHECK.due("least is below 0", value(least + "<0"), 1);
        CHECK.due("most is above 0", value("0<" + most), 1);
        CHECK.due("least < most", value(least + "<" + most), 1);
        CHECK.due("most < least", value(most + "<" + least), 0);
        CHECK.due("-1 * least = least", value("-1*" + least + "=" + least), 1);
        CHECK.due("most * most = 1", value(most + "*" + most), 1);
        CHECK.due("least * 2 = 0", value(least + "*2+5"), 5);
        CHECK.due("least + least = 0", value(least + "+" + least + "+6"), 6);
        CHECK.due("most is bound to 99", value(most), 99);
        CHECK.due("least is bound to 0", value(least), 0);
    }

    /** "grows (0 .. 99, else the bound)", "evens (0 .. 99, ..)", "minds (0 .. 99, ..)" */
    private static void toldWithinBounds() {
        int[][] told = {{0, 0}, {1, 1}, {98, 98}, {99, 99}, {100, 99}, {9999, 99}};
        for (int[] t : told) {
            CHECK.due("grows " + t[0], value("" + t[0]), t[1]);
            AsLastTime x = Salons.ruled(Salons.plain(199, 1), "grows 0;evens 0;minds " + t[0] + ";");
            x.set(2, 3, 41);
            CHECK.due("minds " + t[0], x.once(0, 5), t[1]);
            AsLastTime y = Salons.ruled(Salons.plain(199, 1), "grows 0;evens " + t[0] + ";minds 1;");
            Salons.places(y, 0, 50 + t[1], 50, 50, 50 + t[1]);
            CHECK.due("evens " + t[0] + ": so far apart", y.once(0, 4), 0);
            Salons.places(y, 0, 51 + t[1], 50, 50, 51 + t[1]);
            CHECK.due("evens " + t[0] + ": 1 further", y.once(0, 4) > 0 ? 1 : 0, 1);
        }
        CHECK.due("grows -1", value("-1"), 0);
        CHECK.due("grows -9999", value("-9999"), 0);
        AsLastTime x = Salons.ruled(Salons.plain(199, 1), "grows 0;evens -1;minds -1;");
        x.set(2, 0, 0);
        CHECK.due("minds -1", x.once(0, 5), 0);
        CHECK.due("evens -1: alike is not further apart than 0", x.once(0, 4), 0);
    }

    /** "weeks: of the VISIT (of minds 0)", "hand: its HAND (of minds 0)" */
    private static void mindsKnowNoVisit() {
        for (String e : new String[] {"weeks+5", "hand+5", "5-weeks", "5-hand", "5*(weeks=0)", "5*(hand=0)"}) {
            AsLastTime x = Salons.ruled(Salons.plain(199, 0), "grows 0;evens 0;minds " + e + ";");
            x.hand(0, 0, 199);
            x.visit(1, 200);
            x.set(2, 0, 41);
            CHECK.due("minds " + e + " of a visit", x.once(0, 5), 5);
            CHECK.due("minds " + e + " of a course", x.bad(0), 5);
            CHECK.due("minds " + e + " behind the last", x.bad(2), 5);
            CHECK.due("minds " + e + ", truly", x.go(0), 5);
        }
    }

    /** "weeks: of the VISIT", "hand: its HAND": grows and evens know them, at both ends. */
    private static void growsAndEvensKnowTheVisit() {
        for (String name : new String[] {"weeks", "hand"}) {
            int what = name.equals("weeks") ? 8 : 7;
            int most = name.equals("weeks") ? 20 : 4;
            for (int is : new int[] {0, 1, most}) {
                AsLastTime x = Salons.ruled(Salons.plain(199, 2), "grows " + name + ";evens 99;minds 1;");
                AsLastTime y = Salons.ruled(Salons.plain(199, 2), "grows 0;evens " + name + ";minds 1;");
                for (AsLastTime z : new AsLastTime[] {x, y}) {
                    for (int h = 1; h < 5; h++) {
                        z.hand(0, 0, 199);
                    }
                    z.set(what, 1, is);
                }
                CHECK.due("grows " + name + ", " + is, x.once(1, 3), 40 + is);
                CHECK.due("grows " + name + " of another visit", x.once(0, 3), 40);
                y.set(0, 3, 40 + is);
                CHECK.due("evens " + name + ", " + is, y.once(1, 4), 0);
                y.set(0, 3, 41 + is);
                CHECK.due("evens " + name + ", 1 more than " + is, y.once(1, 4) > 0 ? 1 : 0, 1);
            }
        }
    }

    /** "evens (of the lesser PLACE of two sides, told anew each time; length as it is then)" */
    private static void evensOfTheLesserPlace() {
        String[] es = {"9*(place=0)", "9*(place=2)", "9*(want=7)", "9*(last=6)", "9*(length=30)"};
        int[][] cuts = {{0, 1}, {1, 0}, {0, 1}, {0, 1}, {0, 1}};
        for (int i = 0; i < es.length; i++) {
            // 30 and 39, and 39 and 48: within 9, but not within 0
            AsLastTime x = Salons.ruled(Salons.plain(199, 1), "grows 0;evens " + es[i] + ";minds 1;");
            Salons.places(x, 0, 30, 39, 39, 48);
            Salons.places(x, 1, 6, 5, 5, 6);
            Salons.places(x, 2, 7, 8, 8, 7);
            CHECK.due(es[i] + ": of places 0 and 1", x.once(0, 1) == 39 ? 0 : 1, cuts[i][0]);
            CHECK.due(es[i] + ": of places 2 and 3", x.once(0, 3) == 48 ? 0 : 1, cuts[i][1]);
        }
        // 33 is cut to 29 by 0, at 30 and 29 it is 0 again, then at 28 it is 9
        AsLastTime x = Salons.ruled(Salons.plain(199, 1), "grows 0;evens 9*(length<30);minds 1;");
        Salons.places(x, 0, 30, 33, 40, 40);
        CHECK.due("told anew each time", x.once(0, 4), 2);
        CHECK.due("told anew each time", x.once(0, 0), 28);
        CHECK.due("told anew each time", x.once(0, 1), 29);
    }

    /** "TEXT 0, at first THE RULE, is: grows weeks * 2 ; evens 1 ; minds 1 ;" */
    private static void textZero() {
        AsLastTime x = Salons.plain(199, 1);
        CHECK.due("the rule at first", x.count(4), 0);
        for (int weeks = 0; weeks <= 20; weeks++) {
            x.set(8, 0, weeks);
            CHECK.due("grows weeks * 2: " + weeks, x.once(0, 2), 40 + 2 * weeks);
        }
        x.set(8, 0, 0);
        x.set(0, 0, 41);
        CHECK.due("evens 1: 41 and 40", x.once(0, 4), 0);
        x.set(0, 0, 42);
        CHECK.due("evens 1: 42 and 40", x.once(0, 4), 1);
        CHECK.due("minds 1: 39 and 40", x.once(0, 5), 1);
    }
}
