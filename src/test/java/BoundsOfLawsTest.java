/** Sentence by sentence, the bounds of part 3 of the document: the text, the FAULT, what LAWS SAY, who is OUT. */
public final class BoundsOfLawsTest {
    private static final int NONE = -1;
    private static final String[] NAMES = {"odd", "fresh", "much", "last", "order", "tired", "liked", "age", "house",
        "total", "longest", "trials"};

    public static void main(String[] args) {
        fed();
        highestFirst();
        ended();
        wholeText();
        bytes();
        tokens();
        lines();
        lawWords();
        names();
        numbers();
        brackets();
        expressions();
        tooEarly();
        firstFault();
        given();
        worked();
        divided();
        compared();
        brought();
        freshAndOrder();
        lastAndMuch();
        tired();
        ages();
        othersAreNought();
        outOnes();
        outBounds();
        Check.close("BoundsOfLawsTest");
    }

    private static void fault(String text, int place) {
        Check.due("fault of <" + text + ">", Check.faultOf(text), place);
    }

    private static String repeated(String piece, int times) {
        return piece.repeat(times);
    }

    private static int blanks(LookTimes x) {
        return x.feed(0x20202020, 0x20202020, 0x20202020, 0x20202020, 0x20202020);
    }

    private static void fed() {
        Check.sentence("how many there are; NONE (REFUSED) if there would be more than 500.");
        for (int bytes = 470; bytes <= 500; bytes++) {
            LookTimes x = new LookTimes();
            for (int i = 0; i < 25; i++) {
                Check.due("feed", blanks(x), 20 * (i + 1));
            }
            x.end(bytes);
            Check.due("feed behind " + bytes, blanks(x), bytes <= 480 ? bytes + 20 : NONE);
            Check.due("bytes", x.count(5), bytes <= 480 ? bytes + 20 : bytes);
            Check.due("refused for room", x.status(1), bytes <= 480 ? 0 : 1);
        }
    }

    private static void highestFirst() {
        Check.sentence("Bytes come behind those of the text, of each number the highest first (20 of them)");
        // "law a is 1+2+3+4+5;" and a blank, each number another.
        LookTimes x = Scene.planned(0);
        Check.due("feed", x.feed(0x6c617720, 0x61206973, 0x20312b32, 0x2b332b34, 0x2b353b20), 20);
        Check.due("feed", x.feed(0x6c617720, 0x62206973, 0x20312b32, 0x2b332b34, 0x2b363b20), 40);
        Check.due("laws()", x.laws(), 2);
        Check.due("the first", x.says(0, 0, 0, 8), 15);
        Check.due("the second", x.says(1, 0, 0, 8), 16);
        for (int place = 0; place < 20; place++) {
            for (int b : new int[] {0, 127, 128, 255}) {
                int[] n = {0x20202020, 0x20202020, 0x20202020, 0x20202020, 0x20202020};
                int shift = 24 - place % 4 * 8;
                n[place / 4] = n[place / 4] & ~(255 << shift) | b << shift;
                LookTimes y = new LookTimes();
                y.feed(n[0], n[1], n[2], n[3], n[4]);
                Check.due("byte " + b + " at " + place, y.fault(), place);
            }
        }
    }

    private static void ended() {
        Check.sentence("The text has its first n bytes alone: true; false (REFUSED) if it has not so many, or n is below 0.");
        for (int n = -3; n <= 24; n++) {
            LookTimes x = new LookTimes();
            x.feed(0x6c617720, 0x61206973, 0x20312b32, 0x2b332b34, 0x2b353b20);
            boolean good = n >= 0 && n <= 20;
            Check.due("end(" + n + ")", x.end(n) ? 1 : 0, good ? 1 : 0);
            Check.due("bytes", x.count(5), good ? n : 20);
            Check.due("refused", x.status(2), good ? 0 : 1);
            Check.no("one more", x.end(x.count(5) + 1));
        }
        LookTimes x = new LookTimes();
        Check.yes("end(0) of none", x.end(0));
        x.feed(0x6c617720, 0x61206973, 0x20312b32, 0x2b332b34, 0x2b353b20);
        x.end(10);
        // "law a is 1" goes on with "+2+3+4+5; +2+3+4+5; ": what was cut off is gone.
        x.feed(0x2b322b33, 0x2b342b35, 0x3b202020, 0x20202020, 0x20202020);
        Check.due("bytes go on behind the first n", x.fault(), NONE);
        Check.due("bytes", x.count(5), 30);
    }

    /** A LAW of 500 bytes: as many ones as can be. */
    private static String longest(char last) {
        return "law ab is 1" + repeated("+1", 244) + last;
    }

    private static void wholeText() {
        Check.sentence("LAWS and CLAUSES are a text of at most 500 bytes.");
        Check.due("bytes", longest(';').length(), 500);
        LookTimes x = Scene.planned(0);
        Check.due("500 bytes", Check.laws(x, longest(';')), 1);
        Check.due("all of them count", x.says(0, 0, 0, 8), 245);
        Check.due("product of many", Check.laws(x, "law ab is 2" + repeated("*1", 243) + "*3;"), 1);
        Check.due("all of them count", x.says(0, 0, 0, 8), 6);
        Check.due("600 less many", Check.laws(x, "law abcd is 600" + repeated("-1", 242) + ";"), 1);
        Check.due("all of them count", x.says(0, 0, 0, 8), 358);
        fault(longest(' '), 500);
        fault(longest('1'), 500);
        fault(longest('.'), 499);
        fault(longest(')'), 499);
        fault(repeated(" ", 500), 500);
        fault(repeated("\n", 499) + ";", 499);
        fault(repeated(" ", 489) + "law a is 1;", NONE);
        fault(repeated(" ", 491) + "out if 1;", NONE);
        fault(repeated(" ", 492) + "out if 1", 500);
        fault("law a is " + repeated("9", 491), 9);
        fault("law " + repeated("a", 496), 4);
        fault(repeated("(", 500), 0);
        fault("law ab is " + repeated("0", 489) + ";", NONE);
        fault("law ab is " + repeated("0", 485) + "9999;", NONE);
        fault("law a is 1;" + repeated(";", 489), 11);
    }

    private static void bytes() {
        Check.sentence("TOKENS: words of small letters, numbers of digits, as long as can be, and + - * / < = ( ) ; with any "
            + "blanks (32) and line ends (10) between.");
        for (int b = 0; b < 256; b++) {
            char c = (char) b;
            boolean gap = b == 32 || b == 10;
            boolean letter = b >= 97 && b <= 122;
            boolean digit = b >= 48 && b <= 57;
            boolean join = "+-*/<=".indexOf(c) >= 0;
            Check.due("byte " + b + " alone", Check.faultOf("" + c), gap ? 1 : 0);
            Check.due("byte " + b + " in a name", Check.faultOf("law a" + c + " is 1;"), gap || letter ? NONE : 5);
            Check.due("byte " + b + " behind a number", Check.faultOf("law a is 1" + c + ";"),
                gap || digit ? NONE : join || c == ';' ? 11 : 10);
            Check.due("byte " + b + " behind all", Check.faultOf("law a is 1;" + c), gap ? NONE : 11);
            Check.due("byte " + b + " ahead of all", Check.faultOf(c + "law a is 1;"), gap ? NONE : 0);
        }
    }

    private static void tokens() {
        fault("law a is 1 ;", NONE);
        fault("law\n\na  is\n 1\n;", NONE);
        fault("law a is(1);out if(1);", NONE);
        fault("law a is1;", NONE);
        fault("law a is odd+1;", NONE);
        fault("law a is 12;", NONE);
        fault("law a is 1 2;", 11);
        fault("law a is o dd;", 9);
        fault("law a is od d;", 9);
        fault("lawa is 1;", 0);
        fault("law ais 1;", 8);
        fault("law a i s 1;", 6);
        fault("outif 1;", 0);
        fault("out if1;", NONE);
        fault("out ifage;", 4);
        fault("law a is ageage;", 9);
        fault("law a is age age;", 13);
        fault("law a is 1law b is 2;", 10);
        fault("law a is 1;law b is 2;", NONE);
        fault("LAW a is 1;", 0);
        fault("law A is 1;", 4);
        fault("law a IS 1;", 6);
        fault("law a_b is 1;", 5);
        fault("law a is 1>2;", 10);
        fault("law a is 1%2;", 10);
        fault("law a is 1,2;", 10);
        fault("law a is 1\u00a0;", 10);
    }

    private static String laws(int n) {
        StringBuilder text = new StringBuilder();
        for (int i = 0; i < n; i++) {
            text.append("law ").append((char) ('a' + i)).append(" is ").append(i + 1).append(';');
        }
        return text.toString();
    }

    private static String outs(int n) {
        return repeated("out if 0;", n);
    }

    private static void lines() {
        Check.sentence("LINES, one or more: law N is E ; (at most 6, numbers as they come;");
        for (int n = 1; n <= 6; n++) {
            LookTimes x = Scene.planned(0);
            Check.due("LAWS", Check.laws(x, laws(n)), n);
            for (int law = 0; law < n; law++) {
                Check.due("numbers as they come", x.says(law, 0, 0, 8), law + 1);
            }
            Check.due("one behind", x.says(n, 0, 0, 8), NONE);
        }
        fault(laws(7), 66);
        Check.sentence("out if E ; (at most 4)");
        for (int n = 1; n <= 4; n++) {
            LookTimes x = Scene.planned(0);
            Check.due("no LAWS", Check.laws(x, outs(n)), 0);
            Check.due("CLAUSES", x.count(4), n);
        }
        fault(outs(5), 36);
        LookTimes x = Scene.planned(0);
        Check.due("all that can be", Check.laws(x, outs(2) + laws(6) + outs(2)), 6);
        Check.due("CLAUSES", x.count(4), 4);
        Check.due("the last LAW", x.says(5, 0, 0, 8), 6);
        Check.sentence("(a 7th law, a 5th out at their words; a number that can't be)");
        fault(laws(6) + outs(4), NONE);
        fault(laws(6) + outs(4) + "law", 102);
        fault(laws(6) + outs(4) + " out", 103);
        fault(outs(4) + laws(6) + "law z is 1;", 102);
        fault(outs(4) + laws(6) + "\n\nout if 1;", 104);
        fault(laws(6) + "law ; is", 66);
        fault(outs(4) + "out out", 36);
    }

    private static void lawWords() {
        fault("is", 0);
        fault("if", 0);
        fault("a", 0);
        fault("odd", 0);
        fault("7", 0);
        fault("(", 0);
        fault("law a is 1;a", 11);
        fault("law a is 1;is", 11);
        fault("law a is 1;;", 11);
        fault("law a if 1;", 6);
        fault("out is 1;", 4);
        fault("out a if 1;", 4);
        fault("law is 1;", 4);
        fault("law a law b", 6);
        fault("law a is law;", 9);
        fault("law a is out;", 9);
        fault("law a is is;", 9);
        fault("law a is if;", 9);
        fault("law a is b;law b is 1;", 9);
        fault("law b is 1;law a is b;", 20);
    }

    private static void names() {
        Check.sentence("N a word of at most 8 letters but law is out if and the names, unlike)");
        for (int letters = 1; letters <= 12; letters++) {
            fault("law " + repeated("q", letters) + " is 1;", letters <= 8 ? NONE : 4);
            fault("law a is " + repeated("q", letters) + ";", 9);
        }
        for (String word : new String[] {"law", "is", "out", "if"}) {
            fault("law " + word + " is 1;", 4);
            fault("law " + word + "x is 1;", NONE);
            fault("law x" + word + " is 1;", NONE);
        }
        for (String name : NAMES) {
            fault("law " + name + " is 1;", 4);
            fault("law a is " + name + ";", NONE);
            fault("out if " + name + ";", NONE);
            fault("law a is " + name + "s;", 9);
            fault("law a is " + name.substring(1) + ";", 9);
            fault("law a is " + name.substring(0, name.length() - 1) + ";", 9);
            fault("law " + name.substring(1) + " is 1;", NONE);
            fault("law " + (name + "zz").substring(0, Math.min(8, name.length() + 2)) + " is 1;", NONE);
        }
        fault("law abcdefgh is 1;law abcdefgi is 1;", NONE);
        fault("law abcdefgh is 1;law abcdefgh is 1;", 22);
        fault("law abcdefgh is 1;law bbcdefgh is 1;law abcdefg is 1;law bcdefgh is 1;", NONE);
        fault("law a is 1;law b is 1;law c is 1;law d is 1;law e is 1;law a is 1;", 59);
        fault("law a is 1;law b is 1;law c is 1;law d is 1;law e is 1;law e is 1;", 59);
        fault("law a is 1;law b is 1;law c is 1;law d is 1;law e is 1;law ee is 1;", NONE);
        fault("law a is 1;out if 1;law a is 2;", 24);
        fault("law a is 1;law a\nis 2;", 15);
        fault("law a is 1;law\na is 2;", 15);
        fault("law abcdefgh is 1;law  abcdefgh  is 2;", 23);
        LookTimes x = new LookTimes();
        Check.due("a name of LAWS ahead", Check.laws(x, "law a is 1;"), 1);
        Check.due("is free again", Check.laws(x, "law a is 2;"), 1);
    }

    private static void numbers() {
        Check.sentence("F is a number 0 .. 9999, a name, or ( E );");
        for (String number : new String[] {"0", "1", "9", "10", "99", "100", "999", "1000", "9998", "9999", "00", "0000",
            "00000", "09999", "0000000001"}) {
            fault("law a is " + number + ";", NONE);
            fault("out if " + number + "=(" + number + ");", NONE);
        }
        for (String number : new String[] {"10000", "10001", "99990", "99999", "010000", "65536", "2147483647", "2147483648",
            "4294967296", "4294967297", "18446744073709551616", "99999999999999999999"}) {
            fault("law a is " + number + ";", 9);
            fault("law a is 1+" + number + ";", 11);
            fault("out if " + number, 7);
        }
        // A number that can't be, where no number can stand.
        fault("10000", 0);
        fault("law a is 1;10000", 11);
        fault("law a is 1; 99999;", 12);
        fault("law 10000", 4);
        fault("law a 10000", 6);
        fault("law a is 1 10000", 11);
        fault("law a is -1;", 9);
        fault("law a is +1;", 9);
        fault("law a is (-1);", 10);
        fault("law a is 1--1;", 11);
        fault("law a is 1*-1;", 11);
        fault("law a is (0-1);", NONE);
    }

    private static String nested(String line, int deep, String inside) {
        return line + repeated("(", deep) + inside + repeated(")", deep) + ";";
    }

    private static void brackets() {
        Check.sentence("brackets are open one in another 8 deep at most.");
        for (int deep = 1; deep <= 12; deep++) {
            fault(nested("law a is ", deep, "1"), deep <= 8 ? NONE : 17);
            fault(nested("out if ", deep, "age"), deep <= 8 ? NONE : 15);
            fault(nested("law a is 1<", deep, "1"), deep <= 8 ? NONE : 19);
            fault(nested("law a is 1+2*", deep, "1"), deep <= 8 ? NONE : 21);
            fault(nested("law a is ((((((((1))))))))/", deep, "1=2"), deep <= 8 ? NONE : 35);
        }
        fault("law a is ((((((((1)))))))*(1)+(1)+((2)));", NONE);
        fault("law a is ((((((((1)))))))*(1)+(1)+((2));", 39);
        fault("law a is (((((((1+(2))))))));", NONE);
        fault("law a is ((((((((1+(2)))))))));", 19);
        LookTimes x = Scene.planned(0);
        Check.laws(x, "law a is 1+(2*(3+(4-(1+(2*(1+(1+(1)))))))+100);");
        Check.due("worked 8 deep", x.says(0, 0, 0, 8), 1 + 2 * (3 + (4 - (1 + 2 * (1 + (1 + 1))))) + 100);
        // Eight open at once, in each of which a comparison, a sum and a product wait.
        Check.laws(x, "law a is " + repeated("7=6+1*(", 8) + "1" + repeated(")", 8) + ";");
        Check.due("much waits at once", x.says(0, 0, 0, 8), 1);
        Check.laws(x, "law a is " + repeated("7=6+1*(", 8) + "2" + repeated(")", 8) + ";");
        Check.due("much waits at once", x.says(0, 0, 0, 8), 0);
        fault("law a is );", 9);
        fault("law a is 1);", 10);
        fault("law a is (1));", 12);
        fault("law a is ()1;", 10);
        fault("law a is (1;", 11);
        fault("law a is (1)(2);", 12);
        fault("law a is 1(2);", 10);
        fault("law a is (1", 11);
        fault("law a is (((", 12);
    }

    private static void expressions() {
        Check.sentence("E is S, or S < S, or S = S (1 if so, else 0).");
        fault("law a is 1<2;", NONE);
        fault("law a is 1=2;", NONE);
        fault("law a is 1<2<3;", 12);
        fault("law a is 1=2=3;", 12);
        fault("law a is 1<2=3;", 12);
        fault("law a is 1+1<2*2=3;", 16);
        fault("law a is (1<2)<3;", NONE);
        fault("law a is 1<(2<3);", NONE);
        fault("law a is (1<2<3);", 13);
        fault("law a is (1<2)=(2<1);", NONE);
        fault("law a is <2;", 9);
        fault("law a is 1<;", 11);
        fault("law a is 1<=2;", 11);
        fault("out if 1=2;", NONE);
        fault("out if 1=2=1;", 10);
        Check.sentence("S is T, any number of + T or - T; T is F, any number of * F or / F (cut; by 0: 0);");
        fault("law a is 1+;", 11);
        fault("law a is 1*;", 11);
        fault("law a is *1;", 9);
        fault("law a is 1+*1;", 11);
        fault("law a is 1//1;", 11);
        fault("law a is 1+2-3*4/5+6;", NONE);
    }

    private static void tooEarly() {
        Check.sentence("the length, if it ends too early, or has no LINE; NONE without.");
        String[] early = {"", " ", "law", "law ", "law a", "law a\n", "law a is", "law a is ", "law a is 1", "law a is 1 ",
            "law a is 1+", "law a is 1+1", "law a is 1*", "law a is (", "law a is (1", "law a is (1)", "law a is 1<",
            "law a is 1<2", "law a is odd", "out", "out ", "out if", "out if ", "out if 1", "out if 1 \n", "law a is 1;law",
            "law a is 1;out", "law a is 1;out if 1", "law a is 9999", "law abcdefgh"};
        for (String text : early) {
            fault(text, text.length());
        }
        String[] cut = {"l", "la", "o", "ou", "law a i", "out i", "law a is o", "law a is od", "law a is 1;l"};
        int[] place = {0, 0, 0, 0, 6, 4, 9, 9, 11};
        for (int i = 0; i < cut.length; i++) {
            fault(cut[i], place[i]);
        }
        fault("law a is 1;", NONE);
        fault("law a is 1; \n", NONE);
        fault("\n \n", 3);
    }

    private static void firstFault() {
        Check.sentence("The FAULT is the place (from 0 on) of the first byte of the first TOKEN that can't stand there");
        fault("law  abcdefghijk is 1;", 5);
        fault("law a is 1 12345 x;", 11);
        fault("law a is 1\n\n\n odd;", 14);
        fault("x law a is 1;", 0);
        fault(" x law a is 1;", 1);
        Check.sentence("or of a byte that begins no TOKEN, if that is ahead;");
        fault("law a is 1 . x", 11);
        fault("law a is 1 x .", 11);
        fault("law a is . ;", 9);
        fault("law a is ; .", 9);
        fault("law a is 1;. ", 11);
        fault("law a.is 1;", 5);
        fault("law aB is 1;", 5);
        fault("law odd. is", 4);
        fault("law abcdefghi.", 4);
        fault("law a is 10000.", 9);
        fault("law a is 9999.", 13);
        fault("law.", 3);
        fault(".law", 0);
        fault("law a is ((((((((.", 17);
        fault("law a is (((((((((.", 17);
    }

    private static void given() {
        Check.sentence("gives LAWS and CLAUSES in place of those ahead: how many LAWS; NONE (REFUSED) with a FAULT (it stays).");
        LookTimes x = Scene.planned(0);
        Scene.looks(x, 0, 8, 100);
        Check.due("laws() of nothing", x.laws(), NONE);
        Check.due("6 LAWS, 4 CLAUSES", Check.laws(x, laws(6) + "out if 0;out if 0;out if 0;out if age=8;"), 6);
        Check.due("the text is empty", x.count(5), 0);
        Check.due("the FAULT of it", x.fault(), 0);
        Check.due("by the last CLAUSE", x.out(0, 1), 3);
        Check.due("laws() of the empty text", x.laws(), NONE);
        Check.due("LAWS stay", x.count(3), 6);
        Check.due("1 LAW", Check.laws(x, "law z is 9;"), 1);
        Check.due("no CLAUSES", x.count(4), 0);
        Check.due("nobody is OUT", x.out(0, 0), 0);
        Check.due("that LAW", x.says(0, 0, 0, 8), 9);
        Check.due("no more LAWS", x.says(1, 0, 0, 8), NONE);
        Check.due("a FAULT", Check.laws(x, "law z is 1;out if 1;law z is 3;"), NONE);
        Check.due("it stays", x.fault(), 24);
        Check.due("the text stays", x.count(5), 31);
        Check.due("the LAW stays", x.says(0, 0, 0, 8), 9);
        Check.due("no CLAUSE comes", x.count(4), 0);
        Check.yes("end(20)", x.end(20));
        Check.due("mended", x.laws(), 1);
        Check.due("the new LAW", x.says(0, 0, 0, 8), 1);
        Check.due("the new CLAUSE", x.out(0, 1), 0);
        Check.due("CLAUSES alone", Check.laws(x, "out if 0;"), 0);
        Check.due("no LAW", x.says(0, 0, 0, 8), NONE);
        Check.due("refused", x.status(2), 3);
    }

    private static void is(String e, int want) {
        LookTimes x = Scene.planned(0);
        Check.laws(x, "law a is " + e + ";");
        Check.due(e, x.says(0, 0, 0, 20), want);
    }

    private static void worked() {
        Check.sentence("All that is worked is brought to -1000000 .. 1000000.");
        is("1000*1000=9999*9999", 1);
        is("1000*1000-1=9999*9999-1", 1);
        is("999*1001<1000*1000", 1);
        is("999*1001=9999*9999", 0);
        is("1000*1001=1000*1000", 1);
        is("1000*1000+1=1000*1000", 1);
        is("999*1001+1=1000*1000", 1);
        is("999*1001+2=1000*1000", 1);
        is("1000*1000+9999-9999=1000*1000-9999", 1);
        is("(0-1000)*1000=0-9999*9999", 1);
        is("(0-9999)*9999=(0-1000)*1000", 1);
        is("0-1000*1000-1=0-1000*1000", 1);
        is("(0-1000)*1001=0-1000*1000", 1);
        is("0-1000*1000<0-999*1001", 1);
        is("(0-999*1001)-1=0-1000*1000", 1);
        is("(0-999*1001)-2=0-1000*1000", 1);
        is("0-999*1001=0-1000*1000", 0);
        is("(0-1000*1000)+1=0-999*1001", 1);
        is("(0-9999*9999)*9999*9999=0-1000*1000", 1);
        is("(0-9999*9999)*(0-9999*9999)=1000*1000", 1);
        is("9999*9999*9999*9999*9999/9999", 100);
        is("(1000*1000+1000*1000)/5000", 200);
        is("(0-1000*1000-1000*1000)/(0-5000)", 200);
        is("(1000*1000-(0-1000*1000))/4000", 250);
    }

    private static void divided() {
        Check.sentence("T is F, any number of * F or / F (cut; by 0: 0);");
        is("7/7", 1);
        is("6/7", 0);
        is("13/7", 1);
        is("14/7", 2);
        is("100+(0-6)/7", 100);
        is("100+(0-7)/7", 99);
        is("100+(0-13)/7", 99);
        is("100+13/(0-7)", 99);
        is("(0-14)/(0-7)", 2);
        is("5/0", 0);
        is("0/0", 0);
        is("3+5/0*9", 3);
        is("3+5/(1-1)", 3);
        is("(0-5)/0+2", 2);
        is("1000*1000/1=1000*1000", 1);
        is("(0-1000*1000)/(0-1)=1000*1000", 1);
        is("8/2/2", 2);
        is("8/(2/2)", 8);
        is("9/2*2", 8);
        is("2*9/4", 4);
        is("20-5-5", 10);
        is("20-(5-5)", 20);
        is("20-5+5", 20);
        is("2+3*4-6/2", 11);
    }

    private static void compared() {
        Check.sentence("E is S, or S < S, or S = S (1 if so, else 0).");
        is("1<2", 1);
        is("2<2", 0);
        is("3<2", 0);
        is("1=2", 0);
        is("2=2", 1);
        is("0-1<0", 1);
        is("0<0-1", 0);
        is("1+1<1*3", 1);
        is("5*(2<3)+3*(3<2)", 5);
        is("(1<2)+(1=1)", 2);
        is("(1<2)<2", 1);
        is("3<(2<1)", 0);
    }

    private static void brought() {
        Check.sentence("What a LAW SAYS of a TRIAL of a PLAN, for an AGE: E, brought to 0 .. 600");
        is("0-1", 0);
        is("0-9999*9999", 0);
        is("0", 0);
        is("1", 1);
        is("599", 599);
        is("600", 600);
        is("601", 600);
        is("9999", 600);
        is("9999*9999", 600);
    }

    private static void freshAndOrder() {
        Check.sentence("fresh (how many TRIALS ahead have the same SCREEN)");
        LookTimes x = Scene.staged();
        for (int plan = 0; plan < 4; plan++) {
            int p = plan;
            Scene.addPlan(x, p, p, p, p, p, p, p, p);
        }
        Check.laws(x, "law a is fresh;law b is order;law c is 10*much+odd;");
        int[] shown = {20, 11, 50, 51};
        for (int plan = 0; plan < 4; plan++) {
            for (int trial = 0; trial < 8; trial++) {
                Check.due("fresh in PLAN " + plan, x.says(0, plan, trial, 8), trial);
                Check.due("order in PLAN " + plan, x.says(1, plan, trial, 8), trial);
                Check.due("much and odd in PLAN " + plan, x.says(2, plan, trial, 8), shown[plan]);
            }
            Check.due("no TRIAL 8", x.says(0, plan, 8, 8), NONE);
            Check.due("no TRIAL -1", x.says(0, plan, -1, 8), NONE);
        }
        Check.due("no PLAN 4", x.says(0, 4, 0, 8), NONE);
        LookTimes y = new LookTimes();
        y.screen(1, 1, 2, 0);
        y.screen(1, 1, 2, 0);
        Scene.addPlan(y, 0, 1, 0, 1);
        Check.laws(y, "law a is fresh;");
        int[] due = {0, 0, 1, 1};
        for (int trial = 0; trial < 4; trial++) {
            Check.due("a like SCREEN isn't the same", y.says(0, 0, trial, 8), due[trial]);
        }
    }

    private static void lastAndMuch() {
        Check.sentence("much (SHOWN), last (1 if the TRIAL ahead has as many SHOWN, else 0)");
        LookTimes x = new LookTimes();
        x.screen(0, 0, 0, 0);
        x.screen(0, 1, 0, 1);
        x.screen(9, 0, 9, 2);
        x.screen(3, -1, 9, 3);
        Scene.addPlan(x, 0, 1, 2, 3, 1, 1, 0, 2);
        Check.laws(x, "law a is last;law b is much;");
        int[] last = {0, 1, 0, 1, 0, 1, 1, 0};
        int[] much = {0, 0, 9, 9, 0, 0, 0, 9};
        for (int trial = 0; trial < 8; trial++) {
            Check.due("last, TRIAL " + trial, x.says(0, 0, trial, 8), last[trial]);
            Check.due("much, TRIAL " + trial, x.says(1, 0, trial, 8), much[trial]);
        }
    }

    private static void tired() {
        Check.sentence("tired (what the LAW SAYS of the TRIALS ahead, together, by 10, cut)");
        LookTimes x = Scene.planned(0, 0, 0, 0, 0, 0, 0, 0);
        Check.laws(x, "law a is 9999-tired+tired;law b is 9+tired;law c is 10+tired;law d is tired;law e is 3+tired*0;"
            + "law f is tired+(order<1)*9;");
        int nine = 0;
        int ten = 0;
        for (int trial = 0; trial < 8; trial++) {
            Check.due("of what is brought to 600", x.says(0, 0, trial, 8), 600);
            Check.due("9 and so on", x.says(1, 0, trial, 8), 9 + nine / 10);
            Check.due("10 and so on", x.says(2, 0, trial, 8), 10 + ten / 10);
            Check.due("0 of the first, so 0 of all", x.says(3, 0, trial, 8), 0);
            Check.due("9 together are cut", x.says(5, 0, trial, 8), trial == 0 ? 9 : 0);
            nine += 9 + nine / 10;
            ten += 10 + ten / 10;
        }
        Check.laws(x, "law a is 600*(order<7)+tired*(order=7);law b is 9+(order=1)*tired*100;law c is 3*tired-3*tired+(order=4)*tired+3;");
        Check.due("seven times 600", x.says(0, 0, 7, 8), 420);
        Check.due("9 by 10 is cut to 0", x.says(1, 0, 1, 8), 9);
        Check.due("3, 3, 3, 3 are 12, by 10 then", x.says(2, 0, 4, 8), 4);
    }

    private static void ages() {
        Check.sentence("What a LAW SAYS of a TRIAL of a PLAN for an AGE (8 .. 60); NONE if there are none such.");
        LookTimes x = Scene.planned(0);
        Check.laws(x, "law a is age;");
        for (int age = 5; age <= 63; age++) {
            Check.due("AGE " + age, x.says(0, 0, 0, age), age >= 8 && age <= 60 ? age : NONE);
        }
        Check.due("no LAW", x.says(1, 0, 0, 8), NONE);
        Check.due("LAW -1", x.says(-1, 0, 0, 8), NONE);
        x.plan();
        Check.due("a PLAN without TRIALS", x.says(0, 1, 0, 8), NONE);
    }

    private static void othersAreNought() {
        Check.sentence("liked (of its KIND), age; all others 0.");
        for (String name : new String[] {"house", "total", "longest", "trials"}) {
            LookTimes x = Scene.planned(1, 0);
            Scene.looks(x, 5, 60, 100, 200);
            Check.laws(x, "law a is 7+" + name + ";out if " + name + ";");
            Check.due(name + " in a LAW", x.says(0, 0, 1, 60), 7);
            Check.due(name + " in a CLAUSE", x.out(0, 0), 1);
            Check.due(name + " in a LAW then", x.says(0, 0, 1, 60), 7);
        }
        for (String name : new String[] {"odd", "fresh", "much", "last", "order", "tired", "liked"}) {
            LookTimes x = Scene.planned(1, 1, 3);
            x.liked(3, 9);
            Scene.looks(x, 5, 60, 100, 200, 300);
            Check.laws(x, "law a is 10*" + name + ";out if " + name + ";");
            int said = x.says(0, 0, 0, 60) + x.says(0, 0, 1, 60) + x.says(0, 0, 2, 60);
            Check.yes(name + " in a LAW", said > 0 || name.equals("tired"));
            Check.due(name + " in a CLAUSE", x.out(0, 0), 0);
        }
    }

    private static void outOnes() {
        Check.sentence("OUT is a BABY, if some CLAUSE isn't 0 of it: age, house, total (of its LENGTHS), longest (of them), "
            + "trials (how many aren't missing)");
        LookTimes x = Scene.planned(0, 1, 0, 1, 0, 1, 0, 1);
        Scene.looks(x, 5, 60, 600, 600, 600, 600, 600, 600, 600, 600);
        Scene.looks(x, 0, 8);
        Scene.looks(x, 3, 9, 1);
        out(x, "age=60", 0);
        out(x, "age=8", 1);
        out(x, "house=5", 0);
        out(x, "house=3", 2);
        out(x, "total=4800", 0);
        out(x, "total=0", 1);
        out(x, "total=1", 2);
        out(x, "longest=600", 0);
        out(x, "longest=0", 1);
        out(x, "longest=1", 2);
        out(x, "trials=8", 0);
        out(x, "trials=0", 1);
        out(x, "trials=1", 2);
        out(x, "trials/8", 0);
        x.cried(0, 7);
        out(x, "trials=7", 0);
        out(x, "total=4200", 0);
        x.cried(0, 0);
        out(x, "5<house+trials+total+longest-2", NONE);
        x.cried(0, NONE);
        x.rule(20, 10, 0);
        out(x, "total=80", 0);
    }

    /** By one CLAUSE, this BABY of three is OUT and no other. */
    private static void out(LookTimes x, String e, int baby) {
        Check.laws(x, "out if " + e + ";");
        for (int k = 0; k < 3; k++) {
            Check.due("out if " + e + ", BABY " + k, x.out(k, 0), k == baby ? 1 : 0);
            Check.due("out if " + e + ", BABY " + k + ", which", x.out(k, 1), k == baby ? 0 : NONE);
        }
    }

    private static void outBounds() {
        Check.sentence("Whether a BABY is OUT (1, else 0), by which CLAUSE first (what 1; NONE); NONE for others, or if there "
            + "is none such.");
        for (int first = 0; first <= 4; first++) {
            StringBuilder text = new StringBuilder();
            for (int k = 0; k < 4; k++) {
                text.append("out if ").append(k < first ? "0;" : k % 2 == 0 ? "0-1;" : "1;");
            }
            LookTimes x = Scene.planned(0);
            x.baby(0, 0, 8);
            Check.laws(x, text.toString());
            Check.due("OUT", x.out(0, 0), first < 4 ? 1 : 0);
            Check.due("by which", x.out(0, 1), first < 4 ? first : NONE);
            for (int what : new int[] {-2, -1, 2, 3}) {
                Check.due("what " + what, x.out(0, what), NONE);
            }
            Check.due("no BABY 1", x.out(1, 0), NONE);
            Check.due("no BABY -1", x.out(-1, 1), NONE);
        }
    }
}
