/** The edges of THE TEXT of a PARISH (Terms, I) and of promises 1 to 5. */
final class TextEdges extends Edge {
    private static final String LAW = "law hours 6 beside 0 off 0";
    private static final String A = "person a bed 1 to 2 long 3 to 4";
    private static final String B = "person b bed 1 to 2 long 3 to 4";
    private static final String C = "person c bed 1 to 2 long 3 to 4";
    private static final String D = "person d bed 1 to 2 long 3 to 4";
    private static final String[] NO_NAMES = {"law", "person", "sexton", "apart", "born", "struck", "told", "offer",
        "habit", "nap", "away"};
    private static final String[] NAMES_TOO = {"hours", "beside", "off", "bed", "to", "long", "is"};
    private static final String SIX = LAW + ";" + A + ";" + B + ";" + C + ";" + D
            + ";person e bed 1 to 2 long 3 to 4;person f bed 1 to 2 long 3 to 4";

    private TextEdges() {
    }

    static void run() {
        tape();
        blanks();
        words();
        wholes();
        singles();
        lines();
        law();
        person();
        sextonApartBorn();
        struck();
        toldOffer();
        names();
        firstFault();
        form();
        notTold();
        toldAgain();
        outOfBounds();
        many();
        lacks();
        noHours();
        promise1();
        promise2();
        promise3();
        promise4();
        promise5();
    }

    /** A text filled up with blanks ahead of its last TOKEN to so many bytes. */
    private static String filled(int bytes, String text, String last) {
        return text + repeat(" ", bytes - text.length() - last.length()) + last;
    }

    private static void tape() {
        term("I. THE TEXT of a PARISH (THE TAPE has 900 bytes;");
        x = new StrikeAwake();
        for (int k = 1; k <= 45; k++) {
            due("feed " + k, k * 20, x.feed(0, 0, 0, 0, 0));
        }
        due("feed 46", -1, x.feed(0, 0, 0, 0, 0));
        String text = LAW + ";person a bed 1 to 2 long 3 to";
        reads(1, filled(900, text, "4"));
        due("its last byte is read: spans(0)", 4, x.spans(0));
        reads(1, filled(900, text, "12").replace("long 3", "long 8"));
        due("its last two bytes are read: spans(0)", 10, x.spans(0));
        reads(1, filled(899, text, "4"));
        fault(1, filled(901, text + " 4", "^!"));
        fault(6, filled(900, A + ";born ", "1") + "^");
        fault(1, filled(900, LAW + ";" + A, ";") + "^");
    }

    private static void blanks() {
        term("blanks, 32, part TOKENS and mean nothing else;");
        reads(1, "   law   hours  6  beside 0 off   0  ;   person  a bed 1  to 2 long 3 to 4    ");
        reads(1, "law hours6beside0off0;person a bed1to2long3to4habit5nap1to2away;struck1is2;told a1to2");
        fault(1, "^la w hours 6");
        fault(1, LAW + ";^per son a");
        fault(1, "law hours 1 ^2 beside 0 off 0");
        fault(1, LAW + ";person a ^b ed 1");
        fault(1, "    ^");
        fault(1, "  ^;");
        for (char other : new char[] {0, 9, 10, 11, 12, 13, 31, 33, 127, 133, 160, 255}) {
            fault(1, "law^" + other + "hours 6 beside 0 off 0;" + A);
            fault(1, "^" + other + LAW + ";" + A);
            fault(1, LAW + ";" + A + "^" + other);
        }
    }

    private static void words() {
        term("TOKENS: WORDS of 1 to 8 small letters that stand together,");
        for (String name : new String[] {"z", "zz", "abcdefg", "abcdefgh", "zzzzzzzz", "azazazaz"}) {
            reads(1, LAW + ";person " + name + " bed 1 to 2 long 3 to 4;sexton " + name);
        }
        fault(1, LAW + ";person ^abcdefghi bed 1 to 2 long 3 to 4");
        fault(1, LAW + ";person ^abcdefghabcdefgh bed 1 to 2 long 3 to 4");
        fault(1, LAW + ";person ^" + repeat("z", 64) + " bed 1 to 2 long 3 to 4");
        fault(1, LAW + ";" + A + ";sexton ^aaaaaaaaa");
        fault(1, "^lawwwwwww hours 6");
        fault(1, LAW + ";^personperson a");
        for (char other : new char[] {'`', '{', 'A', 'Z', 0xe1}) {
            fault(1, LAW + ";person ^" + other + " bed 1 to 2 long 3 to 4");
            fault(1, LAW + ";person a^" + other + "b bed 1 to 2 long 3 to 4");
        }
        // each letter of eight tells one NAME from another
        String eight = "abcdefgh";
        for (int k = 0; k < 8; k++) {
            String other = eight.substring(0, k) + "z" + eight.substring(k + 1);
            reads(2, LAW + ";person " + eight + " bed 1 to 2 long 3 to 4;person " + other + " bed 1 to 2 long 3 to 4");
            fault(2, LAW + ";person " + eight + " bed 1 to 2 long 3 to 4;sexton ^" + other);
        }
        reads(2, LAW + ";person aaaaaaaa bed 1 to 2 long 3 to 4;person aaaaaaa bed 1 to 2 long 3 to 4");
    }

    private static void wholes() {
        term("WHOLES of 1 to 3 digits that do,");
        for (String whole : new String[] {"6", "06", "006"}) {
            reads(1, "law hours " + whole + " beside 0 off 0;" + A);
            due("hours " + whole, 6, x.size(6));
        }
        reads(1, "law hours 24 beside 000 off 000;person a bed 000 to 007 long 008 to 012;struck 09 is 099");
        due("spans(0)", 40, x.spans(0));
        fault(1, "law hours ^0006 beside 0 off 0;" + A);
        fault(1, "law hours ^6000 beside 0 off 0;" + A);
        fault(1, "law hours ^4294967302 beside 0 off 0;" + A);
        fault(1, "law hours ^18446744073709551622 beside 0 off 0;" + A);
        fault(4, "law hours ^999 beside 0 off 0;" + A);
        fault(4, "law hours ^000 beside 0 off 0;" + A);
        fault(1, "law hours ^/ beside 0 off 0;" + A);
        fault(1, "law hours ^: beside 0 off 0;" + A);
        fault(1, "law hours ^-6 beside 0 off 0;" + A);
        fault(1, "law hours 6^.0 beside 0 off 0;" + A);
        reads(1, "law hours 9 beside 9 off 0;person a bed 0 to 1 long 2 to 3;born 0;born 9");
    }

    private static void singles() {
        term("single ones of ; ,)");
        fault(1, LAW + ";^;" + A);
        fault(1, LAW + "; ^;" + A);
        fault(1, LAW + ";" + A + ";" + B + ";apart a,^,b");
        fault(1, LAW + ";" + A + ";" + B + ";apart a^;b");
        fault(1, LAW + "^," + A);
        fault(1, LAW + "^:" + A);
        fault(1, LAW + "^<" + A);
        fault(1, LAW + ";" + A + ";" + B + ";apart a^+b");
        fault(1, LAW + ";" + A + ";" + B + ";apart a^-b");
        reads(2, LAW + " ; " + A + " ; " + B + " ; apart a , b");
        reads(2, LAW + ";" + A + ";" + B + ";apart a,b");
    }

    private static void lines() {
        term("LINE {; LINE}. LINE, one of:");
        fault(6, LAW + "^");
        fault(6, A + "^");
        reads(1, LAW + ";" + A);
        reads(1, A + ";" + LAW);
        fault(1, "^");
        fault(1, "^;" + LAW + ";" + A);
        fault(1, LAW + ";" + A + ";^");
        fault(1, LAW + ";" + A + ";  ^");
        fault(1, "^hello");
        fault(1, "^7");
        reads(2, "born 1;struck 1 is 1;" + A + ";told a 1 to 2;" + B + ";offer b 1 to 2;apart b,a;sexton a;" + LAW);
        // as many LINES as there can be, each sort as often as there is room for
        StringBuilder all = new StringBuilder("law hours 24 beside 9 off 3");
        for (String name : "a b c d e f".split(" ")) {
            all.append(";person ").append(name).append(" bed 1 to 1 long 1 to 1");
        }
        all.append(";sexton f;apart a,b;apart b,c;apart a,c").append(repeat(";born 23", 3)).append(struckIn(24, 8));
        all.append(repeat(";told a 1 to 2", 4)).append(repeat(";offer a 0 to 24", 6));
        reads(6, all.toString());
        int[] sizes = {6, 3, 3, 24, 4, 6, 24, 5, 0, 0};
        for (int what = 0; what < 10; what++) {
            due("all rooms full, size(" + what + ")", sizes[what], x.size(what));
        }
    }

    private static void law() {
        term("law hours WHOLE beside WHOLE off WHOLE (1 .. 24, 0 .. 9, 0 .. 3)");
        for (int hours : new int[] {1, 24}) {
            reads(1, "law hours " + hours + " beside 0 off 0;" + A);
            due("hours are as told", hours, x.size(6));
        }
        fault(4, "law hours ^0 beside 0 off 0;" + A);
        fault(4, "law hours ^25 beside 0 off 0;" + A);
        String awake = ";person a bed 0 to 0 long 0 to 0;struck 0 is ";
        reads(1, "law hours 1 beside 9 off 0" + awake + "10");
        due("beside is as told", 1, x.agrees());
        reads(1, "law hours 1 beside 0 off 0" + awake + "2");
        due("beside is as told", 0, x.agrees());
        fault(4, "law hours 1 beside ^10 off 0;" + A);
        reads(1, "law hours 4 beside 0 off 3;person a bed 0 to 0 long 0 to 0" + struckIn(3, 2));
        due("off is as told", 1, x.agrees());
        reads(1, "law hours 4 beside 0 off 0;person a bed 0 to 0 long 0 to 0" + struckIn(1, 2));
        due("off is as told", 0, x.agrees());
        fault(4, "law hours 1 beside 9 off ^4;" + A);
        fault(1, "law ^6 beside 0 off 0");
        fault(1, "law hours ^beside");
        fault(1, "law hours 6 ^off 0");
        fault(1, "law hours 6 beside ^off");
        fault(1, "law hours 6 beside 0 ^;");
        fault(1, "law hours 6 beside 0 off ^;");
        fault(1, "law hours 6 beside 0 off 0 ^0");
        fault(1, "law ^beside");
    }

    private static void bed() {
        term("(HOURS 0 .. 23, the latter not below the former, 7 more at most;");
        for (String range : new String[] {"0 to 0", "0 to 7", "5 to 5", "5 to 12", "16 to 23", "22 to 23",
                "23 to 23"}) {
            reads(1, LAW + ";person a bed " + range + " long 1 to 1");
            String[] ends = range.split(" to ");
            int from = Integer.parseInt(ends[0]);
            int to = Integer.parseInt(ends[1]);
            due("spans(0)", to - from + 1, x.spans(0));
            due("the first b", from, x.span(0, 0, 0));
            due("the last b", to, x.span(0, to - from, 0));
        }
        for (String range : new String[] {"0 to ^8", "5 to ^13", "15 to ^23", "17 to ^24", "23 to ^24", "23 to ^30",
            "5 to ^4", "1 to ^0", "^24 to 24", "^99 to 5", "5 to ^999"}) {
            fault(4, LAW + ";person a bed " + range + " long 1 to 1");
        }
    }

    private static void howLong() {
        term("0 .. 12, likewise, 4 more at most;");
        for (String range : new String[] {"0 to 0", "0 to 4", "5 to 5", "5 to 9", "8 to 12", "11 to 12", "12 to 12"}) {
            reads(1, LAW + ";person a bed 1 to 1 long " + range);
            String[] ends = range.split(" to ");
            int from = Integer.parseInt(ends[0]);
            int to = Integer.parseInt(ends[1]);
            due("spans(0)", to - from + 1, x.spans(0));
            due("the first l", from, x.span(0, 0, 1));
            due("the last l", to, x.span(0, to - from, 1));
        }
        for (String range : new String[] {"0 to ^5", "5 to ^10", "7 to ^12", "9 to ^13", "12 to ^13", "5 to ^4",
            "1 to ^0", "^13 to 13", "^99 to 5"}) {
            fault(4, LAW + ";person a bed 1 to 1 long " + range);
        }
    }

    private static void person() {
        term("person NAME bed WHOLE to WHOLE long WHOLE to WHOLE, behind it perhaps habit WHOLE, then perhaps nap WHOLE"
                + " to WHOLE, then perhaps away");
        String[] customs = {" habit 3", " nap 1 to 2", " away"};
        for (int bits = 0; bits < 8; bits++) {
            StringBuilder line = new StringBuilder(LAW + ";" + A);
            for (int k = 0; k < 3; k++) {
                line.append((bits >> k & 1) == 1 ? customs[k] : "");
            }
            reads(1, line.toString());
            due("weight, " + line, (bits & 1) == 0 ? 1 : (bits & 4) == 0 ? 8 : 7, x.span(0, 0, 2));
            due("away, " + line, (bits & 4) == 0 ? 4 : 1, x.spans(0));
        }
        fault(1, LAW + ";" + A + " nap 1 to 2 ^habit 3");
        fault(1, LAW + ";" + A + " away ^nap 1 to 2");
        fault(1, LAW + ";" + A + " away ^habit 3");
        fault(1, LAW + ";" + A + " habit 3 ^habit 3");
        fault(1, LAW + ";" + A + " nap 1 to 2 ^nap 1 to 2");
        fault(1, LAW + ";" + A + " away ^away");
        fault(1, LAW + ";person a ^habit 3");
        fault(1, LAW + ";person a ^long 1 to 2");
        fault(1, LAW + ";person a bed 1 to 2 ^;");
        fault(1, LAW + ";person a bed 1 to 2 ^away");
        fault(1, LAW + ";person a bed 1 ^long");
        fault(1, LAW + ";" + A + " habit ^nap");
        fault(1, LAW + ";" + A + " nap ^away");
        fault(1, LAW + ";" + A + " nap 1 ^2");
        bed();
        howLong();
        term("likewise, 4 more at most; 0 .. 23;");
        for (int habit : new int[] {0, 23}) {
            reads(1, LAW + ";person a bed " + habit + " to " + habit + " long 1 to 1 habit " + habit);
            due("the habit is as told", 10, x.span(0, 0, 2));
        }
        fault(4, LAW + ";" + A + " habit ^24");
        fault(4, LAW + ";" + A + " habit ^999");
        term("0 .. 23; 0 .. 23, the latter above the former, up to 24; up to 6)");
        for (String nap : new String[] {"0 to 1", "0 to 24", "23 to 24", "5 to 6"}) {
            reads(1, "law hours 24 beside 0 off 0;person a bed 1 to 1 long 0 to 0 nap " + nap);
            String[] ends = nap.split(" to ");
            int asleep = (1 << Integer.parseInt(ends[1])) - (1 << Integer.parseInt(ends[0]));
            due("nap " + nap, 0xFFFFFF & ~asleep, awakeIn(0, 0));
        }
        for (String nap : new String[] {"0 to ^0", "5 to ^5", "5 to ^4", "0 to ^25", "23 to ^25", "23 to ^23",
            "^24 to 25", "^99 to 1"}) {
            fault(4, LAW + ";" + A + " nap " + nap);
        }
        reads(6, SIX);
        fault(5, SIX + ";^person g bed 1 to 2 long 3 to 4");
    }

    private static void sextonApartBorn() {
        String three = LAW + ";" + A + ";" + B + ";" + C;
        term("sexton PERSON, or apart PERSON, PERSON (up to 3),");
        reads(3, three + ";sexton a");
        due("the first is the sexton", 0, x.size(7));
        reads(3, three + ";sexton c");
        due("the last is the sexton", 2, x.size(7));
        fault(1, three + ";sexton a ^b");
        fault(1, three + ";sexton ^0");
        fault(3, three + ";sexton a;^sexton b");
        reads(3, three);
        due("none apart", 0, x.size(1));
        reads(3, three + ";apart a,b;apart c,b;apart a,c");
        due("three pairs", 3, x.size(1));
        fault(5, three + ";" + D + ";apart a,b;apart c,b;apart a,c;^apart a,d");
        term("or born WHOLE (0 .. 23; up to 3),");
        reads(1, LAW + ";" + A + ";born 0");
        reads(1, LAW + ";" + A + ";born 23");
        fault(4, LAW + ";" + A + ";born ^24");
        reads(1, LAW + ";" + A);
        due("none born", 0, x.size(2));
        reads(1, LAW + ";" + A + ";born 5;born 5;born 0");
        due("three born", 3, x.size(2));
        fault(5, LAW + ";" + A + ";born 5;born 5;born 0;^born 1");
    }

    private static void struck() {
        term("or struck WHOLE is WHOLE (0 .. 23, 0 .. 99; each HOUR once; up to 24)");
        String law = "law hours 24 beside 0 off 0;" + A;
        reads(1, law + ";struck 0 is 0;struck 23 is 99");
        due("struck 0 is 0", 0, x.struck(0));
        due("struck 23 is 99", 99, x.struck(23));
        due("nothing is told of the others", -2, x.struck(1));
        due("nothing is told of the others", -2, x.struck(22));
        fault(4, law + ";struck ^24 is 0");
        fault(4, law + ";struck 23 is ^100");
        fault(4, law + ";struck 0 is ^999");
        fault(1, law + ";struck 0 ^0");
        fault(1, law + ";struck 0 is ^;");
        fault(3, law + ";struck 0 is 1;struck ^0 is 1");
        fault(3, law + ";struck 23 is 1;struck 0 is 1;struck ^23 is 2");
        reads(1, law);
        due("none struck", 0, x.size(3));
        reads(1, law + struckIn(24, 1));
        due("all struck", 24, x.size(3));
        fault(5, law + struckIn(24, 1) + ";^struck 5 is 1");
    }

    private static void toldOffer() {
        String law = "law hours 24 beside 0 off 0;" + A + ";" + B;
        term("told PERSON WHOLE to WHOLE (0 .. 23, the latter above the former, up to 24; up to 4),");
        reads(2, law + ";told a 0 to 1;told b 0 to 24;told a 23 to 24;told b 5 to 6");
        due("four told", 4, x.size(4));
        for (String hours : new String[] {"^24 to 25", "0 to ^0", "5 to ^5", "5 to ^4", "0 to ^25", "23 to ^23",
            "23 to ^25"}) {
            fault(4, law + ";told a " + hours);
        }
        fault(5, law + repeat(";told a 0 to 1", 4) + ";^told b 0 to 1");
        reads(2, law);
        due("nothing told", 0, x.size(4));
        term("or offer PERSON WHOLE to WHOLE (likewise; up to 6)");
        reads(2, law + ";offer a 0 to 1;offer b 0 to 24;offer a 23 to 24;offer b 5 to 6;offer a 1 to 2;offer a 1 to 2");
        due("six offers", 6, x.size(5));
        for (String hours : new String[] {"^24 to 25", "0 to ^0", "5 to ^5", "5 to ^4", "0 to ^25", "23 to ^23",
            "23 to ^25"}) {
            fault(4, law + ";offer a " + hours);
        }
        fault(5, law + repeat(";offer a 0 to 1", 6) + ";^offer b 0 to 1");
        reads(2, law);
        due("no offers", 0, x.size(5));
    }

    private static void names() {
        term("NAMES are WORDS but law, person, sexton, apart, born, struck, told, offer, habit, nap, away;");
        for (String word : NO_NAMES) {
            fault(1, LAW + ";person ^" + word + " bed 1 to 2 long 3 to 4");
            fault(1, LAW + ";" + A + ";sexton ^" + word);
            fault(1, LAW + ";" + A + ";apart ^" + word + ",a");
            fault(1, LAW + ";" + A + ";apart a,^" + word);
            fault(1, LAW + ";" + A + ";told ^" + word + " 0 to 1");
            fault(1, LAW + ";" + A + ";offer ^" + word + " 0 to 1");
            String longer = word + "x";
            reads(1, LAW + ";person " + longer + " bed 1 to 2 long 3 to 4;sexton " + longer);
            String shorter = word.substring(1);
            reads(1, LAW + ";person " + shorter + " bed 1 to 2 long 3 to 4;sexton " + shorter);
        }
        for (String word : NAMES_TOO) {
            reads(2, LAW + ";person " + word + " bed 1 to 2 long 3 to 4;" + A + ";sexton " + word + ";apart a," + word
                    + ";told " + word + " 0 to 1;offer " + word + " 0 to 1");
        }
        fault(1, LAW + ";person ^1 bed 1 to 2 long 3 to 4");
        fault(1, LAW + ";" + A + ";sexton ^,");
        term("each told once, ahead of its use.");
        fault(3, LAW + ";" + A + ";person ^a bed 1 to 2 long 3 to 4");
        fault(2, LAW + ";sexton ^a;" + A);
        fault(2, LAW + ";told ^a 0 to 1;" + A);
        fault(2, LAW + ";offer ^a 0 to 1;" + A);
        fault(2, LAW + ";apart ^a,b;" + A + ";" + B);
        fault(2, LAW + ";" + A + ";apart a,^b;" + B);
        reads(2, LAW + ";" + A + ";sexton a;" + B + ";apart a,b");
    }

    private static void firstFault() {
        term("FAULTS, the first that is met from the left,");
        fault(4, "law hours ^25 beside 10 off 4;!");
        fault(1, "law hours 6 ^! 25;law");
        fault(2, LAW + ";sexton ^a;" + LAW);
        fault(3, LAW + ";^law hours 25;;");
        fault(4, A + ";born ^24;born 1;born 1;born 1;born 1");
        fault(5, A + ";born 1;born 1;born 1;^born 24");
        fault(5, SIX + ";^person a bed 24");
        fault(5, SIX + ";apart a,b;apart a,c;apart a,d;^apart a,a");
        fault(5, "law hours 24 beside 0 off 0;" + A + struckIn(24, 1) + ";^struck 24 is 100");
        fault(5, LAW + ";" + A + repeat(";told a 0 to 1", 4) + ";^told b 24 to 0");
        fault(5, LAW + ";" + A + repeat(";offer a 0 to 1", 6) + ";^offer b 24 to 0");
        fault(3, LAW + ";" + A + ";person ^a bed 24 to 0");
        fault(3, "struck 5 is 1;struck ^5 is 100");
        fault(2, LAW + ";" + A + ";apart ^b,b");
        fault(2, LAW + ";" + A + ";told ^b 24 to 0");
        term("of one place the least number:");
        fault(3, LAW + ";^law hours 6 beside 0 off 0;" + A);
        fault(3, LAW + ";" + A + ";sexton a;^sexton a");
        fault(1, "born 1;^");
        fault(1, "^");
        fault(1, A + ";sexton ^law");
        fault(1, LAW + ";" + A + ";person ^person bed 1 to 2 long 3 to 4");
        fault(1, SIX + ";^persons");
    }

    private static void form() {
        term("1 FORM: the first byte that begins no TOKEN,");
        fault(1, "^!");
        fault(1, "^\u0000");
        fault(1, "^\u00ff");
        fault(1, "^abcdefghi");
        fault(1, "^1234");
        fault(1, LAW + ";" + A + "^.");
        fault(1, LAW + ";" + A + "   ^.");
        fault(1, LAW + ";^L");
        term("or TOKEN with which no PARISH goes on (the end: its place).");
        fault(1, "^to");
        fault(1, "^habit 3");
        fault(1, "^nap 1 to 2");
        fault(1, "^away");
        fault(1, LAW + ";" + A + ";^nap 1 to 2");
        fault(1, LAW + ";" + A + ";^away");
        fault(1, "^,");
        fault(1, "law ^law");
        fault(1, LAW + " ^beside 0");
        fault(1, LAW + ";" + A + " ^b");
        fault(1, LAW + ";" + A + " ^1");
        fault(1, LAW + ";" + A + "^,");
        fault(1, LAW + ";" + A + ";born ^;");
        fault(1, LAW + ";" + A + ";born 1 ^to 2");
        fault(1, LAW + ";" + A + ";struck 1 is 1 ^is");
        fault(1, LAW + ";" + A + ";told a 1 to 2 ^3");
        fault(1, LAW + ";" + A + ";" + B + ";apart a ^b");
        fault(1, LAW + ";" + A + ";" + B + ";apart a,b^,a");
        String whole = LAW + ";person a bed 1 to 2 long 3 to 4 habit 5 nap 1 to 2 away;" + B + ";sexton a;apart a,b;"
                + "born 1;struck 1 is 1;told a 1 to 2;offer a 1 to 2";
        String[] tokens = whole.replace(";", " ; ").replace(",", " , ").split(" +");
        StringBuilder head = new StringBuilder();
        for (String token : tokens) {
            head.append(head.length() == 0 ? "" : " ").append(token);
            Model model = new Model();
            model.tape = head.toString();
            if (model.parish(head.length()) < 0) {
                fault(model.fault == 6 ? 6 : 1, head + "^");
                fault(model.fault == 6 ? 6 : 1, head + "  ^");
            }
        }
    }

    private static void notTold() {
        term("2 a NAME that isn't told; at it.");
        fault(2, "sexton ^a");
        fault(2, LAW + ";" + A + ";sexton ^b");
        fault(2, LAW + ";" + A + ";sexton   ^aa");
        fault(2, LAW + ";" + A + ";apart ^b,a");
        fault(2, LAW + ";" + A + ";apart a, ^b");
        fault(2, LAW + ";" + A + ";told ^b 0 to 1");
        fault(2, LAW + ";" + A + ";offer ^b 0 to 1");
        fault(2, LAW + ";person ab bed 1 to 2 long 3 to 4;sexton ^a");
        // what an earlier text told is no more told
        begin(LAW + ";" + A + ";" + B);
        none("another text's NAME", 4, Texts.parish(x, LAW + ";" + A + ";sexton b"));
        due("another text's NAME, then fault()", 2, x.fault());
    }

    private static void toldAgain() {
        String four = LAW + ";" + A + ";" + B + ";" + C + ";" + D;
        term("3 a NAME told again; the second of two that is the first, or two apart told again (either way round)"
                + "; an HOUR"
                + " struck again; at it;");
        fault(3, four + ";person ^a bed 1 to 2 long 3 to 4");
        fault(3, four + ";person ^d bed 1 to 2 long 3 to 4");
        fault(3, four + ";apart a,^a");
        fault(3, four + ";apart d,^d");
        fault(3, four + ";apart a,b;apart a,^b");
        fault(3, four + ";apart a,b;apart b,^a");
        fault(3, four + ";apart c,d;apart a,b;apart d,^c");
        fault(3, four + ";apart c,d;apart a,b;apart b,^a");
        fault(3, four + ";apart a,b;apart a,c;apart a,^b");
        fault(3, four + ";apart a,b;apart a,c;apart b,^a");
        fault(3, four + ";apart a,b;apart c,b;apart a,^b");
        fault(3, four + ";apart a,b;apart c,b;apart b,^a");
        reads(4, four + ";apart a,b;apart a,c;apart b,c");
        fault(3, four + ";struck 0 is 1;struck ^0 is 1");
        fault(3, four + ";struck 0 is 0;struck ^0 is 0");
        fault(3, four + ";struck 9 is 1;struck ^9 is 1");
        fault(3, four + ";struck 23 is 1;struck ^23 is 1");
        fault(3, four + ";struck 7 is 1;struck ^007 is 1");
        reads(4, four + ";struck 1 is 1;struck 11 is 1;struck 2 is 1");
        begin(four + ";struck 0 is 1;apart a,b;sexton a");
        fine("another text tells it once", 4, Texts.parish(x, four + ";struck 0 is 1;apart a,b;sexton a"));
        none("a text at fault", 4, Texts.parish(x, four + ";struck 1 is 1;apart b,c;sexton b;!"));
        fine("and another once more", 4, Texts.parish(x, four + ";struck 1 is 1;apart b,c;sexton b"));
        term("a second law, sexton; at that WORD.");
        fault(3, LAW + ";^law");
        fault(3, LAW + ";" + A + "; ^law hours 1 beside 0 off 0");
        fault(3, LAW + ";" + A + ";sexton a;^sexton");
        fault(3, four + ";sexton d;^sexton a");
    }

    private static void outOfBounds() {
        term("4 a WHOLE out of bounds; at it.");
        fault(4, "law hours   ^0 beside 0 off 0");
        fault(4, "law hours ^025 beside 0 off 0");
        fault(4, "law hours 1 beside ^999");
        fault(4, "law hours 1 beside 9 off ^04");
        fault(4, LAW + ";person a bed ^24 to 24");
        fault(4, LAW + ";person a bed 0 to 0 long ^13 to 13");
        fault(4, LAW + ";" + A + " habit 23 nap ^24 to 24");
        fault(4, LAW + ";" + A + ";born ^099");
        fault(4, LAW + ";" + A + ";struck ^24 is 100");
        fault(4, LAW + ";" + A + ";struck 0 is ^100");
        fault(4, LAW + ";" + A + ";told a ^24 to 24");
        fault(4, LAW + ";" + A + ";told a 3 to ^3");
        fault(4, LAW + ";" + A + ";offer a 3 to ^25");
        // out of bounds by the HOURS there can be, not by those of this law
        reads(1, "law hours 1 beside 0 off 0;" + A + ";born 23;struck 23 is 99;told a 22 to 24;offer a 5 to 24");
    }

    private static void many() {
        term("5 MANY: a LINE more of its sort than there is room for, at its first WORD.");
        fault(5, SIX + ";^person");
        fault(5, SIX + ";born 1; ^person g bed 1 to 2 long 3 to 4");
        fault(5, SIX + ";apart a,b;apart a,c;apart a,d;^apart");
        fault(5, LAW + ";" + A + ";born 1;born 1;born 1;^born");
        fault(5, "law hours 24 beside 0 off 0;" + A + struckIn(24, 1) + ";^struck");
        fault(5, "law hours 1 beside 0 off 0;" + A + struckIn(24, 1) + ";^struck");
        fault(5, LAW + ";" + A + repeat(";told a 0 to 1", 4) + ";^told");
        fault(5, LAW + ";" + A + repeat(";offer a 0 to 1", 6) + ";^offer");
        begin(SIX + ";born 1;born 2;born 3");
        fine("another text has room anew", 6, Texts.parish(x, SIX + ";born 1;born 2;born 3"));
    }

    private static void lacks() {
        term("6 LACKS, at the end: no law, no person.");
        fault(6, LAW + "^");
        fault(6, A + "^");
        fault(6, "born 1^");
        fault(6, "born 1   ^");
        fault(6, LAW + ";born 1;struck 1 is 1^");
        fault(6, A + ";" + B + ";apart a,b;sexton a^");
        reads(1, LAW + ";" + A);
        begin(LAW + ";" + A);
        none("what an earlier text told is no more told", 4, Texts.parish(x, LAW));
        due("no person", 6, x.fault());
        none("what an earlier text told is no more told", 4, Texts.parish(x, A));
        due("no law", 6, x.fault());
    }

    private static void noHours() {
        term("HOURS are 0 up to hours less 1; whatever is told of others is of no matter.");
        String three = "law hours 3 beside 0 off 0;person a bed 0 to 1 long 1 to 1;person b bed 2 to 2 long 1 to 3";
        begin(three);
        due("worlds()", 6, x.worlds());
        numbers("struck(hour)", 2, -1, hour -> x.struck(hour));
        begin(three + ";struck 3 is 99;struck 23 is 0");
        due("struck in no HOUR: worlds()", 6, x.worlds());
        due("struck in no HOUR: size(3)", 0, x.size(3));
        due("struck in no HOUR: quiet(99)", 0, x.quiet(99));
        due("struck in no HOUR: judge()", -2, x.judge());
        none("struck in no HOUR: struck(3)", 1, x.struck(3));
        denied("struck in no HOUR: still(3)", 1, x.still(3));
        begin(three + ";struck 2 is 1");
        due("struck in the last: size(3)", 1, x.size(3));
        due("struck in the last: worlds()", 6, x.worlds());
        begin(three + ";born 3;born 23");
        due("born in no HOUR: strikes(2)", 1, x.strikes(2));
        begin(three + ";born 2");
        due("born in the last: strikes(2)", 2, x.strikes(2));
        begin(three + ";told a 3 to 24;told b 2 to 24;told a 2 to 24");
        due("told of the last: lie(1)", 0, x.lie(1));
        due("told of the last: lie(2)", 1, x.lie(2));
        due("told of no HOUR: lie(0)", 0, x.lie(0));
        begin(three + ";offer a 0 to 24;offer a 3 to 24");
        due("offered for more: keep()", 1, x.keep());
        begin(three + ";offer a 3 to 24;offer b 0 to 2");
        due("offered for no HOUR: keep()", -2, x.keep());
        begin("law hours 3 beside 0 off 0;person s bed 0 to 7 long 0 to 2 nap 3 to 24;sexton s;struck 3 is 1"
                + ";struck 7 is 1");
        due("the sexton asleep in no HOUR: spans(0)", 24, x.spans(0));
        due("a nap in no HOUR: awake in all", 7, awakeIn(0, 0));
        begin("law hours 3 beside 0 off 0;person a bed 3 to 3 long 1 to 1;person b bed 3 to 3 long 1 to 1;apart a,b");
        due("both asleep in no HOUR: worlds()", 1, x.worlds());
    }

    private static void promise1() {
        promise(1, "No PARISH.");
        x = new StrikeAwake();
        for (int what = 0; what < 10; what++) {
            due("size(" + what + ")", 0, x.size(what));
        }
        due("trouble()", 0, x.trouble());
        due("fault()", 0, x.fault());
        due("where()", -1, x.where());
        none("lots()", 1, x.lots());
        none("spans(0)", 1, x.spans(0));
        begin(PAIR);
        StrikeAwake other = x;
        x = new StrikeAwake();
        none("worlds() of another object", 1, x.worlds());
        x = other;
        fine("worlds() of this one", 8, x.worlds());
    }

    private static void promise2() {
        promise(2, "Twenty bytes come behind THE TAPE, of each number the highest first: how many it has;");
        x = new StrikeAwake();
        // "law hours 24 beside 9 off 3;person a bed 0 to 0 long 0 to 0!": each byte has its place
        String text = "law hours 24 beside 9 off 3;person a bed 0 to 0 long 0 to 0 ";
        due("three feeds", 60, Texts.feed(x, text));
        fine("parish(59)", 1, x.parish(59));
        due("size(9)", 0, x.size(9));
        due("from the front anew", 20, x.feed(1818326816, 1752135026, 1931620896, 1818326816, 1752135026));
        for (int place = 0; place < 20; place++) {
            x = new StrikeAwake();
            int[] n = {0x20202020, 0x20202020, 0x20202020, 0x20202020, 0x20202020};
            // the highest bit set: a number below 0 when it is the first byte of one
            n[place / 4] = n[place / 4] & ~(255 << 24 - place % 4 * 8) | 0xE1 << 24 - place % 4 * 8;
            due("twenty bytes", 20, x.feed(n[0], n[1], n[2], n[3], n[4]));
            none("the byte at " + place, 4, x.parish(20));
            due("the byte at " + place + ", then where()", place, x.where());
        }
        promise(2, "NONE, and none comes, if there would be more than 900.");
        x = new StrikeAwake();
        Texts.feed(x, filled(900, PAIR, " "));
        due("900", 900, x.size(9));
        for (int k = 0; k < 3; k++) {
            due("one feed more", -1, x.feed(0x21212121, 0x21212121, 0x21212121, 0x21212121, 0x21212121));
            due("none comes", 900, x.size(9));
        }
        due("it may not be refused by a number", 0, x.trouble());
        fine("parish(900)", 2, x.parish(900));
        due("room anew", 20, x.feed(0, 0, 0, 0, 0));
    }

    private static void promise3() {
        promise(3, "The first n bytes of THE TAPE (it is empty then) are the PARISH from now on (SAID all 0, CURSOR "
                + "0): how many"
                + " people.");
        x = new StrikeAwake();
        Texts.feed(x, PAIR + ";!!!!");
        fine("the first bytes alone", 2, x.parish(PAIR.length()));
        due("nothing is left", 0, x.size(9));
        none("nothing is left to read", 2, x.parish(1));
        x.say(0, 3);
        x.say(1, 1);
        x.seek();
        x.strike(0, 1);
        fine("another", 2, Texts.parish(x, PAIR));
        due("said(0)", 0, x.said(0));
        due("said(1)", 0, x.said(1));
        due("size(8)", 0, x.size(8));
        due("struck(0)", -2, x.struck(0));
        due("worlds()", 8, x.worlds());
        fine("as far as the last byte", 1, Texts.parish(x, ONE + repeat(" ", 900 - ONE.length())));
        none("the empty text", 4, x.parish(0));
        Texts.feed(x, ONE);
        none("no byte of what was fed", 4, x.parish(0));
        due("it is empty then", 0, x.size(9));
        nothingIsLeft();
        refusedParishes();
    }

    /** Texts behind one that fills all rooms are read as if they were the first. */
    private static void nothingIsLeft() {
        StringBuilder rich = new StringBuilder("law hours 24 beside 9 off 3"
                + ";person a bed 2 to 3 long 2 to 2 habit 3 nap 4 to 24");
        for (String name : "b c d e f".split(" ")) {
            rich.append(";person ").append(name).append(" bed 9 to 9 long 0 to 1").append(name.equals("b") ? " "
                    + "away" : "");
        }
        rich.append(";sexton b;apart a,b;apart b,c;apart c,d").append(repeat(";born 0", 3)).append(struckIn(24, 7));
        rich.append(repeat(";told a 2 to 3", 4)).append(repeat(";offer a 0 to 24", 6));
        String plain = "law hours 5 beside 0 off 0;person a bed 1 to 2 long 1 to 1;person b bed 2 to 3 long 1 to 1"
                + ";person d"
                + " bed 2 to 3 long 1 to 1;struck 2 is 2;told b 2 to 3;offer a 0 to 4";
        begin(plain);
        long[] first = look();
        for (String between : new String[] {null, ONE, rich + ";", plain + ";law"}) {
            begin(rich.toString());
            for (int person = 0; person < 6; person++) {
                x.say(person, 1);
            }
            x.restore(x.image() + 7L * 40 * 40 * 40 * 40 * 40 * 40);
            due("CURSOR", 7, x.size(8));
            due("what is SAID", 1, x.said(0));
            due("strikes(0)", 8, x.strikes(0));
            if (between != null) {
                Texts.parish(x, between);
            }
            fine("a text behind a full one, and " + between, 3, Texts.parish(x, plain));
            sameLook("a text behind a full one, and " + between, first);
            try {
                due("nobody is away any more", -9, x.led(0));
            } catch (java.util.NoSuchElementException e) {
                due("nobody is away any more", 0, x.trouble());
            }
        }
    }

    private static void refusedParishes() {
        promise(3, "NONE: 2 (THE TAPE stays);");
        x = new StrikeAwake();
        none("one more than none", 2, x.parish(1));
        int fed = Texts.feed(x, ONE);
        for (int n : new int[] {-1, Integer.MIN_VALUE, fed + 1, 901, Integer.MAX_VALUE}) {
            none("parish(" + n + ")", 2, x.parish(n));
            due("parish(" + n + "), then size(9)", fed, x.size(9));
        }
        fine("as many as there are", 1, x.parish(fed));
        Texts.feed(x, "!");
        none("a number ahead of a FAULT", 2, x.parish(21));
        none("and then the FAULT", 4, x.parish(20));
        promise(3, "4 (the PARISH stays).");
        begin(PAIR + ";apart a,b;born 3;struck 1 is 1;told a 1 to 2;offer a 0 to 9;sexton b");
        x.say(0, 2);
        x.seek();
        x.strike(3, 3);
        long[] before = look();
        String other = SIX + ";apart a,c;born 1;struck 0 is 5;told b 0 to 1;sexton a";
        for (String text : new String[] {"", "!", LAW, A, ONE + ";law", other + ";", OVER + ";!", MOST + ";sexton g"}) {
            none(text, 4, Texts.parish(x, text));
            due(text + ", then THE TAPE", 0, x.size(9));
            due(text + ", then the PARISH's people", 2, x.size(0));
            due(text + ", then what is SAID", 2, x.said(0));
            due(text + ", then CURSOR", 2, x.size(8));
            due(text + ", then what is struck", 3, x.struck(3));
        }
        sameLook("texts at fault", before);
        x = new StrikeAwake();
        none("with no PARISH ahead", 4, x.parish(0));
        none("there is none still", 1, x.worlds());
        due("there is none still", 0, x.size(0));
    }

    private static void promise4() {
        promise(4, "The FAULT of the latest parish() not refused by 2; 0 without one.");
        x = new StrikeAwake();
        due("none was read", 0, x.fault());
        none("refused by 2", 2, x.parish(1));
        due("refused by 2", 0, x.fault());
        String[] texts = {"", "sexton b", LAW + ";law", "law hours 0", LAW + repeat(";born 1", 4), LAW};
        for (int number = 1; number <= 6; number++) {
            none(texts[number - 1], 4, Texts.parish(x, texts[number - 1]));
            due(texts[number - 1], number, x.fault());
            none("refused by 2", 2, x.parish(-1));
            due("refused by 2, it stays", number, x.fault());
            x.spans(0);
            x.feed(0, 0, 0, 0, 0);
            due("other calls, it stays", number, x.fault());
            none("bytes that are no TOKENS", 4, x.parish(20));
        }
        fine("a text without one", 1, Texts.parish(x, ONE));
        due("a text without one", 0, x.fault());
        none("refused by 2", 2, x.parish(900));
        due("refused by 2, it stays", 0, x.fault());
    }

    private static void promise5() {
        promise(5, "Its place, if the latest call that may be refused was by 4; NONE else.");
        x = new StrikeAwake();
        due("none was refused", -1, x.where());
        none("the first byte", 4, x.parish(0));
        due("the first byte", 0, x.where());
        due("asked again", 0, x.where());
        x.fault();
        x.trouble();
        x.size(0);
        x.size(99);
        x.feed(0, 0, 0, 0, 0);
        try {
            x.led(0);
        } catch (java.util.NoSuchElementException e) {
            due("led isn't refused by a number", 0, x.where());
        }
        due("calls that aren't refused by a number", 0, x.where());
        none("a call refused by 1", 1, x.spans(0));
        due("a call refused by 1", -1, x.where());
        none("the FAULT at the first of twenty", 4, x.parish(20));
        none("refused by 2", 2, x.parish(1));
        due("refused by 2", -1, x.where());
        Texts.feed(x, filled(900, LAW + ";" + A, ";"));
        none("the end of all", 4, x.parish(900));
        due("the end of all", 900, x.where());
        fine("a text without one", 1, Texts.parish(x, ONE));
        due("a text without one", -1, x.where());
        none("a FAULT", 4, Texts.parish(x, ONE + ";"));
        due("a FAULT", ONE.length() + 1, x.where());
        fine("a call that is answered", 1, x.spans(0));
        due("a call that is answered", -1, x.where());
    }
}
