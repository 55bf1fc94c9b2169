/** Promises 6 to 8: feed, text, force; what is a text, its fault, and what an E is. */
public final class TextsTest {
    private static final Check CHECK = new Check("TextsTest");

    public static void main(String[] args) {
        feeding();
        reading();
        fullOfTexts();
        forcing();
        tokens();
        faults();
        brackets();
        values();
        wrapping();
        names();
        bounds();
        deepestStack();
        CHECK.end();
    }

    private static void feeding() {
        AsLastTime x = new AsLastTime();
        CHECK.due("feed -1", x.feed(-1), AsLastTime.BAD);
        CHECK.due("feed 256", x.feed(256), AsLastTime.BAD);
        CHECK.due("an empty tape", x.count(3), 0);
        for (int i = 1; i <= 160; i++) {
            CHECK.due("feed", x.feed(i % 2 == 0 ? 0 : 255), i);
        }
        CHECK.due("the tape is full", x.feed(0), AsLastTime.FULL);
        CHECK.due("BAD is ahead of FULL", x.feed(256), AsLastTime.BAD);
        CHECK.due("a full tape", x.count(3), 160);
    }

    private static void reading() {
        AsLastTime x = new AsLastTime();
        CHECK.due("texts at first", x.count(2), 1);
        CHECK.due("an empty tape ends too early", x.text(), -100);
        CHECK.due("a text", Salons.read(x, "grows 1;evens 2;minds 3;"), 1);
        CHECK.due("the tape is empty", x.count(3), 0);
        CHECK.due("a fault", Salons.read(x, "grows x"), -106);
        CHECK.due("the tape is empty by a fault, too", x.count(3), 0);
        CHECK.due("a fault is no text", x.count(2), 2);
        CHECK.due("the next text", Salons.read(x, "grows 1;evens 2;minds 3;"), 2);
        CHECK.due("three texts", x.count(2), 3);
        CHECK.due("the rule stays", x.count(4), 0);
        AsLastTime y = Salons.plain(199, 1);
        CHECK.due("a fault", Salons.read(y, "grows 50;evens 60;minds 70;;"), -127);
        Salons.ruled(y, "grows 4;evens 2;minds 3;");
        CHECK.due("nothing is left of a text with a fault", y.once(0, 0), 44);
        CHECK.due("nothing is left of a text with a fault", y.once(0, 5), 4 * 4 * 3);
        y.set(0, 0, 43);
        CHECK.due("nothing is left of a text with a fault", y.once(0, 4), 1);
    }

    private static void fullOfTexts() {
        AsLastTime x = new AsLastTime();
        for (int t = 1; t <= 5; t++) {
            CHECK.due("text " + t, Salons.read(x, "grows 1;evens 2;minds 3;"), t);
        }
        CHECK.due("no room", Salons.read(x, "grows"), AsLastTime.FULL);
        CHECK.due("the tape stays", x.count(3), 5);
        CHECK.due("six texts", x.count(2), 6);
    }

    private static void forcing() {
        AsLastTime x = Salons.plain(199, 1);
        Salons.read(x, "grows 7;evens 2;minds 3;");
        CHECK.due("still by text 0", x.once(0, 0), 40);
        CHECK.due("force 2", x.force(2), AsLastTime.BAD);
        CHECK.due("force -1", x.force(-1), AsLastTime.BAD);
        CHECK.due("the rule stays", x.count(4), 0);
        CHECK.due("force 1", x.force(1), 0);
        CHECK.due("the rule", x.count(4), 1);
        CHECK.due("by text 1", x.once(0, 0), 47);
        CHECK.due("force 0", x.force(0), 1);
        CHECK.due("by text 0", x.once(0, 0), 40);
        x.set(8, 0, 6);
        CHECK.due("text 0 grows weeks * 2", x.once(0, 0), 52);
        x.set(0, 0, 43);
        x.set(2, 0, 44);
        x.set(8, 0, 0);
        CHECK.due("text 0 evens 1", x.once(0, 4), 1);
        CHECK.due("text 0 evens 1", x.once(0, 0), 39);
        CHECK.due("text 0 minds 1", x.once(0, 5), 5);
    }

    private static int fault(String text) {
        return Salons.read(new AsLastTime(), text);
    }

    private static void tokens() {
        CHECK.due("no blanks", fault("grows 1;evens 2;minds 3;"), 1);
        CHECK.due("blanks all over", fault("\n grows\n1 ; evens 2 ;\n\nminds\n3;\n "), 1);
        CHECK.due("a number ends where letters begin", fault("grows 1and 1;evens 2;minds 3;"), 1);
        CHECK.due("words end where digits begin", fault("grows1;evens2;minds3;"), 1);
        CHECK.due("a tab begins none", fault("grows\t1;evens 2;minds 3;"), -105);
        CHECK.due("13 begins none", fault("grows\r1;evens 2;minds 3;"), -105);
        CHECK.due("255 begins none", fault("grows 1\u00ff;evens 2;minds 3;"), -107);
        CHECK.due("0 begins none", fault("\u0000grows 1;evens 2;minds 3;"), -100);
        CHECK.due("capitals begin none", fault("Grows 1;evens 2;minds 3;"), -100);
        CHECK.due("four digits", fault("grows 9999;evens 0000;minds 3;"), 1);
        CHECK.due("five digits", fault("grows 12345;evens 2;minds 3;"), -106);
        CHECK.due("five digits of 0", fault("grows 00000;evens 2;minds 3;"), -106);
        CHECK.due("an unknown word", fault("grows 1+lengths;evens 2;minds 3;"), -108);
        CHECK.due("a part of a word", fault("grows lengt;evens 2;minds 3;"), -106);
        CHECK.due("one letter", fault("grows l;evens 2;minds 3;"), -106);
        CHECK.due("another first letter", fault("grows sand;evens 2;minds 3;"), -106);
        CHECK.due("another last letter", fault("grows hans;evens 2;minds 3;"), -106);
        CHECK.due("a and z are letters", fault("grows handa;evens 2;minds 3;"), -106);
        CHECK.due("a and z are letters", fault("grows handz;evens 2;minds 3;"), -106);
        CHECK.due("an _ is none", fault("grows hand_;evens 2;minds 3;"), -110);
        for (char sign : "!\"#$%&',./:>?@[\\]^_`{|}~".toCharArray()) {
            CHECK.due("sign " + sign, fault("grows 1" + sign + ";evens 2;minds 3;"), -107);
        }
    }

    private static void faults() {
        CHECK.due("only blanks", fault("  \n"), -103);
        CHECK.due("too early, behind blanks", fault("grows 1 "), -108);
        CHECK.due("too early, in an E", fault("grows 1+"), -108);
        CHECK.due("without the last ;", fault("grows 1;evens 2;minds 3"), -123);
        CHECK.due("one thing more", fault("grows 1;evens 2;minds 3; ;"), -125);
        CHECK.due("a second text", fault("grows 1;evens 2;minds 3;grows 1;"), -124);
        CHECK.due("out of order", fault("evens 1;grows 2;minds 3;"), -100);
        CHECK.due("evens is missing", fault("grows 1;minds 3;"), -108);
        CHECK.due("grows twice", fault("grows 1;grows 3;"), -108);
        CHECK.due("no E", fault("grows ;"), -106);
        CHECK.due("a key for a name", fault("grows grows;"), -106);
        CHECK.due("or ahead", fault("grows or 1;"), -106);
        CHECK.due("and behind", fault("grows 1 and ;"), -112);
        CHECK.due("two numbers", fault("grows 1 2;"), -108);
        CHECK.due("not in a sum", fault("grows 1+not 1;"), -108);
        CHECK.due("not behind <", fault("grows 1<not 1;"), -108);
        CHECK.due("two <", fault("grows 1<2<3;"), -109);
        CHECK.due("= and <", fault("grows 1=2<3;"), -109);
        CHECK.due("a bracket that is not closed", fault("grows (1;"), -108);
        CHECK.due("a bracket that is not open", fault("grows 1);"), -107);
        CHECK.due("an empty bracket", fault("grows ();"), -107);
        CHECK.due("plus ahead", fault("grows +1;"), -106);
        CHECK.due("times times", fault("grows 1**1;"), -108);
        CHECK.due("a name behind a bracket", fault("grows (1)length;"), -109);
        CHECK.due("the first of two faults", fault("grows 1 1 12345;"), -108);
        String full = "grows 1;evens 1;minds 1;";
        for (int i = full.length(); i < 160; i++) {
            full = full + " ";
        }
        CHECK.due("160 bytes", fault(full), 1);
        CHECK.due("160 bytes without an end", fault(full.replace("minds 1;", "minds 1 ")), -260);
    }

    private static void brackets() {
        String rest = ";evens 1;minds 1;";
        CHECK.due("5 (", fault("grows (((((1)))))" + rest), 1);
        CHECK.due("6 (", fault("grows ((((((1))))))" + rest), -111);
        CHECK.due("5 -", fault("grows -----1" + rest), 1);
        CHECK.due("6 -", fault("grows ------1" + rest), -111);
        CHECK.due("5 not", fault("grows not not not not not 1" + rest), 1);
        CHECK.due("6 not", fault("grows not not not not not not 1" + rest), -126);
        CHECK.due("5 of all", fault("grows not (-(not 1))" + rest), 1);
        CHECK.due("( is the sixth", fault("grows not (-(-(1)))" + rest), -114);
        CHECK.due("- is the sixth", fault("grows not (-((-1)))" + rest), -114);
        CHECK.due("not is the sixth", fault("grows not (-((not 1)))" + rest), -114);
        CHECK.due("not twice in brackets", fault("grows ((((not not 1))))" + rest), -114);
        CHECK.due("a minus of two is none", fault("grows (((((1-1)))))" + rest), 1);
        CHECK.due("( ends at its )", fault("grows (((((1)+(1)+(1)))))" + rest), 1);
        CHECK.due("( ends at its )", fault("grows (((((1))))+((((1)))))" + rest), 1);
        CHECK.due("( ends at its )", fault("grows (((((1))))+(((((1))))))" + rest), -121);
        CHECK.due("- ends with its ONE", fault("grows ((((-1*-1))))" + rest), 1);
        CHECK.due("- ends with its ONE", fault("grows ((((-1-(-1)))))" + rest), -114);
        CHECK.due("not ends with its NOT", fault("grows ((((not 1 and not 1))))" + rest), 1);
        CHECK.due("not is open at the right of <", fault("grows ((((not 1<(1)))))" + rest), -116);
        CHECK.due("not is no more open behind and", fault("grows ((((not 1 and (1)))))" + rest), 1);
    }

    /** What an E is, as far as it is 0 to 99. */
    private static int value(String e) {
        AsLastTime x = Salons.ruled(Salons.plain(199, 1), "grows " + e + ";evens 99;minds 1;");
        return x.once(0, 0) - 40;
    }

    private static void values() {
        CHECK.due("7", value("7"), 7);
        CHECK.due("0099", value("0099"), 99);
        CHECK.due("2+3*4", value("2+3*4"), 14);
        CHECK.due("(2+3)*4", value("(2+3)*4"), 20);
        CHECK.due("9-3-2", value("9-3-2"), 4);
        CHECK.due("9-(3-2)", value("9-(3-2)"), 8);
        CHECK.due("9-3+2", value("9-3+2"), 8);
        CHECK.due("5--3", value("5--3"), 8);
        CHECK.due("20+-3*2", value("20+-3*2"), 14);
        CHECK.due("-3*-4", value("-3*-4"), 12);
        CHECK.due("--8", value("--8"), 8);
        CHECK.due("-1+5", value("-1+5"), 4);
        CHECK.due("3<4", value("3<4"), 1);
        CHECK.due("4<4", value("4<4"), 0);
        CHECK.due("5<4", value("5<4"), 0);
        CHECK.due("-1<0", value("-1<0"), 1);
        CHECK.due("4=4", value("4=4"), 1);
        CHECK.due("4=5", value("4=5"), 0);
        CHECK.due("1+3=2*2", value("1+3=2*2"), 1);
        CHECK.due("(3<4)+1", value("(3<4)+1"), 2);
        CHECK.due("not 0", value("not 0"), 1);
        CHECK.due("not 7", value("not 7"), 0);
        CHECK.due("not -1", value("not -1"), 0);
        CHECK.due("not not 7", value("not not 7"), 1);
        CHECK.due("not 3<2", value("not 3<2"), 1);
        CHECK.due("not 0=0", value("not 0=0"), 0);
        CHECK.due("not 0+1", value("not 0+1"), 0);
        CHECK.due("5 and 6", value("5 and 6"), 1);
        CHECK.due("5 and 0", value("5 and 0"), 0);
        CHECK.due("0 and 6", value("0 and 6"), 0);
        CHECK.due("2 and 4", value("2 and 4"), 1);
        CHECK.due("5 or 6", value("5 or 6"), 1);
        CHECK.due("0 or 6", value("0 or 6"), 1);
        CHECK.due("-5 or 0", value("-5 or 0"), 1);
        CHECK.due("0 or 0", value("0 or 0"), 0);
        CHECK.due("1 or 0 and 0", value("1 or 0 and 0"), 1);
        CHECK.due("(1 or 0) and 0", value("(1 or 0) and 0"), 0);
        CHECK.due("0 and 0 or 1", value("0 and 0 or 1"), 1);
        CHECK.due("not 1 or 1", value("not 1 or 1"), 1);
        CHECK.due("not 0 and 0", value("not 0 and 0"), 0);
        CHECK.due("0 or 0 or 3", value("0 or 0 or 3"), 1);
        CHECK.due("1 and 1 and 0", value("1 and 1 and 0"), 0);
        CHECK.due("2*3*4", value("2*3*4"), 24);
    }

    private static void wrapping() {
        // 9999 to the power of 3 is 999700029999, in 32 bits -1027349969
        CHECK.due("a product wraps", value("9999*9999*9999=-(1027*1000*1000+349*1000+969)"), 1);
        // 4096 to the power of 3 is 2 to the power of 36, in 32 bits 0
        CHECK.due("a product wraps to 0", value("4096*4096*4096"), 0);
        CHECK.due("a product wraps to 0, and 5", value("4096*4096*4096+5"), 5);
        String most = "(2048*1024*1024-1)";
        CHECK.due("the most int", value("0<" + most), 1);
        CHECK.due("the most int, and 1", value(most + "+1<0"), 1);
        CHECK.due("the least int less 1", value("0<-" + most + "-2"), 1);
        CHECK.due("less the least int is itself", value("-(2048*1024*1024)<0"), 1);
    }

    private static void names() {
        String rest = ";evens 99;minds 1;";
        AsLastTime x = Salons.plain(199, 1);
        x.hand(0, 0, 199);
        x.hand(0, 0, 199);
        Salons.places(x, 0, 10, 11, 12, 13);
        Salons.places(x, 1, 20, 21, 22, 23);
        Salons.places(x, 2, 30, 31, 32, 33);
        x.set(8, 0, 17);
        x.set(7, 0, 2);
        int[] want = {20, 30, 40, 27, 10, 12};
        String[] names = {"length", "last", "want", "weeks", "place", "hand"};
        for (int i = 0; i < 5; i++) {
            Salons.ruled(x, "grows " + names[i] + rest);
            for (int p = 0; p < 4; p++) {
                int more = i < 3 ? 2 * p : i == 4 ? 2 * p : p;
                CHECK.due(names[i] + " of " + p, x.once(0, p), want[i] + more);
            }
        }
        AsLastTime y = Salons.plain(199, 1);
        y.hand(0, 0, 199);
        y.hand(0, 0, 199);
        y.set(7, 0, 2);
        Salons.ruled(y, "grows hand" + rest);
        CHECK.due("hand", y.once(0, 3), 42);
        y.set(7, 0, 1);
        CHECK.due("hand", y.once(0, 0), 41);
        minds("weeks + hand", 0);
        minds("length", 53);
        minds("last", 53);
        minds("want", 40);
        minds("place + 2", 2);
    }

    /** Places 0 and 1 end at 53, wanted is 40 and 53, so that place 0 alone is off, by 13. */
    private static void minds(String e, int each) {
        AsLastTime x = Salons.plain(199, 1);
        x.hand(0, 0, 199);
        x.set(7, 0, 1);
        x.set(8, 0, 13);
        Salons.places(x, 2, 40, 53, 53, 53);
        Salons.ruled(x, "grows weeks;evens 99;minds " + e + ";");
        CHECK.due("minds " + e, x.once(0, 5), 13 * each);
    }

    private static void bounds() {
        CHECK.due("grows 100", value("100"), 99);
        CHECK.due("grows 9999", value("9999"), 99);
        CHECK.due("grows -1", value("-1"), 0);
        AsLastTime x = Salons.ruled(Salons.plain(199, 1), "grows 0;evens 100;minds 100;");
        Salons.places(x, 0, 100, 0, 99, 0);
        CHECK.due("evens 100 is 99", x.once(0, 0), 0);
        CHECK.due("evens 100 is 99", x.once(0, 2), 99);
        CHECK.due("minds 100 is 99", x.once(0, 5), 99 * (40 + 40 + 59 + 40));
        AsLastTime y = Salons.ruled(Salons.plain(199, 1), "grows 0;evens -5;minds -1;");
        CHECK.due("evens -5 is 0", y.once(0, 4), 0);
        y.set(0, 0, 41);
        CHECK.due("evens -5 is 0", y.once(0, 4), 30);
        CHECK.due("minds -1 is 0", y.once(0, 5), 0);
    }

    /** All signs wait at every level of brackets: 31 numbers stand at once. */
    private static void deepestStack() {
        String level = "0or 1and 2<3+1*(";
        String e = level + level + level + level + level + "0or 1and 2<3+1*1" + ")))))";
        CHECK.due("the deepest stack", value(e), 1);
        String sums = "1+1*(1+1*(1+1*(1+1*(1+1*(1+1*1)))))";
        CHECK.due("deep sums", value(sums), 7);
    }
}
