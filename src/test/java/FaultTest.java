/** Texts with the FAULT that is due; ^ (taken out ahead of reading) stands where it is. Promises 3 to 5. */
public final class FaultTest {
    private static final String LAW = "law hours 6 beside 0 off 0";
    private static final String A = "person a bed 1 to 2 long 3 to 4";
    private static final String B = "person b bed 1 to 2 long 3 to 4";

    private static void fault(int number, String marked) {
        int place = marked.indexOf('^');
        String text = marked.substring(0, place) + marked.substring(place + 1);
        StrikeAwake x = new StrikeAwake();
        Due.is(marked, -1, Texts.parish(x, text));
        Due.is("trouble() of " + marked, 4, x.trouble());
        Due.is("fault() of " + marked, number, x.fault());
        Due.is("where() of " + marked, place, x.where());
        Due.is("size(0) of " + marked, 0, x.size(0));
    }

    private static void fine(int people, String text) {
        StrikeAwake x = new StrikeAwake();
        Due.is(text, people, Texts.parish(x, text));
        Due.is("trouble() of " + text, 0, x.trouble());
        Due.is("fault() of " + text, 0, x.fault());
        Due.is("where() of " + text, -1, x.where());
    }

    private static void tokens() {
        fault(1, "^");
        fault(1, "   ^");
        fault(1, "^;");
        fault(1, "^,");
        fault(1, "^7");
        fault(1, "^Law hours 6 beside 0 off 0");
        fault(1, "law^\thours 6");
        fault(1, "law hours 6^\nbeside 0");
        fault(1, "law ^\u00e4hours 6");
        fault(1, "law ^\u0000");
        fault(1, "law hours^.");
        fault(1, "person ^abcdefghi bed 1 to 2 long 3 to 4");
        fault(1, "law hours ^0006");
        fault(1, LAW + ";person ab^-c bed");
        // letters and digits that stand together are TOKENS of their own
        fine(1, "lawhours6".replace("lawhours", "law hours") + "beside0off0;person a bed1to2long3to4");
        fine(1, "law hours 006 beside 00 off 000;person abcdefgh bed 001 to 2 long 3 to 4");
        fine(1, "  law   hours 6 beside 0 off 0 ; person a bed 1 to 2 long 3 to 4  ");
        fault(1, "person a^2 bed 1 to 2 long 3 to 4");
        fault(1, LAW + ";" + A + "^/");
    }

    private static void form() {
        fault(1, "law^");
        fault(1, "law ^6");
        fault(1, "law hours^");
        fault(1, "law hours ^beside");
        fault(1, "law hours 6^");
        fault(1, "law hours 6 ^off 0");
        fault(1, "law hours 6 beside 0^;");
        fault(1, "law hours 6 beside 0 off^");
        fault(1, LAW + " ^0");
        fault(1, LAW + "^,");
        fault(1, LAW + ";^");
        fault(1, LAW + ";  ^");
        fault(1, LAW + ";^;" + A);
        fault(1, "^hello");
        fault(1, "^habit");
        fault(1, "^nap 1 to 2");
        fault(1, "^away");
        fault(1, "person^");
        fault(1, "person ^5");
        fault(1, "person ^;");
        for (String word : new String[] {"law", "person", "sexton", "apart", "born", "struck", "told", "offer",
            "habit", "nap", "away"}) {
            fault(1, "person ^" + word + " bed 1 to 2 long 3 to 4");
            fault(1, A + ";sexton ^" + word);
        }
        for (String word : new String[] {"bed", "to", "long", "hours", "beside", "off", "is", "laws", "pers"}) {
            fine(1, LAW + ";person " + word + " bed 1 to 2 long 3 to 4;sexton " + word);
        }
        fault(1, "person a ^1");
        fault(1, "person a bed ^to");
        fault(1, "person a bed 1 ^2");
        fault(1, "person a bed 1 to^");
        fault(1, "person a bed 1 to 2^;long");
        fault(1, "person a bed 1 to 2 long 3^");
        fault(1, "person a bed 1 to 2 long 3 to ^a");
        fault(1, A + " habit^");
        fault(1, A + " nap 1^");
        fault(1, A + " nap 1 to^");
        fault(1, A + " nap 1 to 2 ^habit 3");
        fault(1, A + " away ^nap 1 to 2");
        fault(1, A + " away ^away");
        fault(1, A + " habit 3 ^habit 3");
        fault(1, A + ";sexton^");
        fault(1, A + ";sexton ^1");
        fault(1, A + ";sexton a ^a");
        fault(1, A + ";" + B + ";apart a ^b");
        fault(1, A + ";" + B + ";apart a^;" + LAW);
        fault(1, A + ";" + B + ";apart a,^");
        fault(1, A + ";" + B + ";apart a,^,b");
        fault(1, "born^");
        fault(1, "born ^a");
        fault(1, "struck 1 ^2");
        fault(1, "struck 1 is^");
        fault(1, "struck 1 is ^is");
        fault(1, A + ";told ^1 to 2");
        fault(1, A + ";told a^");
        fault(1, A + ";told a 1^");
        fault(1, A + ";offer a 1 ^,");
        fault(1, A + ";offer a 1 to 2 ^3");
    }

    private static void namesAndTwice() {
        fault(2, "sexton ^b");
        fault(2, A + ";sexton ^aa");
        fault(2, "apart ^a,b");
        fault(2, A + ";apart a,^b");
        fault(2, "told ^a 1 to 2");
        fault(2, "offer ^a 1 to 2;" + A);
        fault(3, A + ";person ^a bed");
        fault(3, A + ";" + B + ";person ^b");
        fault(3, A + ";apart a,^a");
        fault(3, A + ";" + B + ";apart a,b;apart a,^b");
        fault(3, A + ";" + B + ";apart a,b;apart b,^a");
        String three = A + ";" + B + ";person z bed 1 to 2 long 3 to 4;apart ";
        fault(3, three + "a,b;apart a,z;apart a,^b");
        fault(3, three + "a,b;apart z,b;apart a,^b");
        fault(3, three + "a,z;apart z,b;apart z,^a");
        fault(3, three + "a,z;apart b,z;apart b,^z");
        fault(3, "struck 0 is 2;struck ^0");
        fault(3, "struck 5 is 0;struck ^5");
        fault(3, "struck 1 is 2;struck ^1");
        fault(3, "struck 23 is 2;struck ^23 is 3;" + LAW + ";" + A);
        fault(3, LAW + ";^law");
        fault(3, LAW + ";" + A + ";^law hours 3");
        fault(3, A + ";sexton a;^sexton a");
    }

    private static void bounds() {
        fault(4, "law hours ^0");
        fault(4, "law hours ^25");
        fault(4, "law hours ^999");
        fault(4, "law hours 24 beside ^10");
        fault(4, "law hours 24 beside 9 off ^4");
        fault(4, "person a bed ^24");
        fault(4, "person a bed 5 to ^4");
        fault(4, "person a bed 5 to ^13");
        fault(4, "person a bed 20 to ^24");
        fault(4, "person a bed 5 to 12 long ^13");
        fault(4, "person a bed 5 to 12 long 3 to ^2");
        fault(4, "person a bed 5 to 12 long 3 to ^8");
        fault(4, "person a bed 5 to 12 long 10 to ^13");
        fault(4, A + " habit ^24");
        fault(4, A + " nap ^24 to 25");
        fault(4, A + " nap 5 to ^5");
        fault(4, A + " nap 5 to ^4");
        fault(4, A + " nap 5 to ^25");
        fault(4, "born ^24");
        fault(4, "struck ^24 is 2");
        fault(4, "struck 23 is ^100");
        fault(4, A + ";told a ^24");
        fault(4, A + ";told a 3 to ^3");
        fault(4, A + ";told a 3 to ^25");
        fault(4, A + ";offer a ^24");
        fault(4, A + ";offer a 3 to ^2");
        fault(4, A + ";offer a 3 to ^25");
        fine(1, "law hours 1 beside 0 off 0;person a bed 0 to 0 long 0 to 0 habit 0 nap 0 to 1 away");
        fine(1, "law hours 24 beside 9 off 3;person a bed 23 to 23 long 12 to 12 habit 23 nap 23 to 24;born 23;"
                + "struck 23 is 99;told a 23 to 24;offer a 0 to 24");
        fine(1, LAW + ";person a bed 5 to 12 long 3 to 7");
        fine(1, LAW + ";person zaz bed 5 to 5 long 3 to 3;born 0;struck 0 is 0;told zaz 0 to 1;offer zaz 0 to 1");
        fine(1, LAW + ";person a bed 16 to 23 long 8 to 12");
    }

    private static void many() {
        StringBuilder people = new StringBuilder(LAW);
        for (char c = 'a'; c < 'g'; c++) {
            people.append(";person ").append(c).append(" bed 1 to 2 long 3 to 4");
        }
        fine(6, people.toString());
        fault(5, people + ";^person");
        fault(5, people + ";^person a");
        String pairs = people + ";apart a,b;apart b,c;apart a,c";
        fine(6, pairs);
        fault(5, pairs + ";^apart a,b");
        fine(6, people + ";born 1;born 1;born 2");
        fault(5, "born 1;born 1;born 2;^born");
        String told = LAW + ";" + A + ";told a 1 to 2;told a 1 to 2;told a 3 to 4;told a 0 to 9";
        fine(1, told);
        fault(5, told + ";^told");
        String offer = LAW + ";" + A + ";offer a 1 to 2;offer a 1 to 2;offer a 3 to 4;offer a 0 to 9;offer a 1 to 3"
                + ";offer a 1 to 4";
        fine(1, offer);
        fault(5, offer + ";^offer a");
        StringBuilder struck = new StringBuilder(LAW + ";" + A);
        for (int h = 0; h < 24; h++) {
            struck.append(";struck ").append(h).append(" is 1");
        }
        fine(1, struck.toString());
        fault(5, struck + ";^struck 0");
    }

    private static void lacks() {
        fault(6, LAW + "^");
        fault(6, A + "^");
        fault(6, A + "   ^");
        fault(6, "born 1^");
        // one place, the least number: the form at the end ahead of what lacks
        fault(1, "born 1;^");
        fine(1, A + ";" + LAW);
    }

    public static void main(String[] args) {
        tokens();
        form();
        namesAndTwice();
        bounds();
        many();
        lacks();
        Due.end("FaultTest");
    }
}
