/** The edges of asking, lies, proofs, what is beside, nothing and keep (Terms, III) and of promises 32 to 40. */
final class AskEdges extends Edge {
    /** 625 LOTS, of which 401 are WORLDS. */
    private static final String WORLDS401 = "law hours 24 beside 0 off 0;person a bed 0 to 4 long 0 to 4;"
            + "person b bed 1 to 5 long 0 to 4;apart a,b";
    /** 400 LOTS, all of them WORLDS. */
    private static final String WORLDS400 = "law hours 24 beside 0 off 0;person a bed 0 to 7 long 0 to 4;"
            + "person b bed 0 to 1 long 0 to 4";
    /** 40, 25 and 5 SPANS: 5,000 LOTS. */
    private static final String LOTS5000 = "law hours 24 beside 0 off 0;person a bed 0 to 7 long 0 to 4;"
            + "person b bed 0 to 4 long 0 to 4;person c bed 0 to 0 long 0 to 4";
    /** 31 (HOUR 2 is struck), 18 and 9 SPANS: 5,022 LOTS; no text has fewer above 5,000. */
    private static final String LOTS5022 = "law hours 24 beside 0 off 0;person a bed 0 to 7 long 0 to 4;"
            + "person b bed 0 to 5 long 0 to 2;person c bed 0 to 2 long 0 to 2;sexton a";
    private static final String ALWAYS = ";person a bed 0 to 0 long 0 to 0";

    private AskEdges() {
    }

    static void run() {
        asked();
        lie();
        bars();
        proof();
        beside();
        nothing();
        keep();
        promise32();
        promise33();
        promise34();
        promise35();
        promise36();
        promise37();
        promise38();
        promise39();
        promise40();
    }

    private static void asked() {
        term("ASK: the fewest people by whose SPANS each WORLD is told from all others");
        begin(ONE);
        due("one WORLD: nobody", 0, x.ask());
        String two = "law hours 4 beside 0 off 0;person a bed 0 to 1 long 1 to 1;person b bed 0 to 1 long 1 to 1";
        begin(two);
        due("two of two", 3, x.ask());
        x.strike(0, 1);
        due("one of two: one is asleep in 0, the other isn't", 1, x.ask());
        x.strike(0, 0);
        due("one WORLD of four: nobody", 0, x.ask());
        StringBuilder six = new StringBuilder("law hours 2 beside 0 off 0");
        for (char name = 'a'; name < 'g'; name++) {
            six.append(";person ").append(name).append(" bed 0 to 0 long 0 to 1");
        }
        begin(six.toString());
        due("all six", 63, x.ask());
        x.strike(0, 1);
        due("five of six: one alone is awake", 31, x.ask());
        x.strike(0, 0);
        due("all asleep: nobody", 0, x.ask());
        begin("law hours 2 beside 0 off 0;person a bed 0 to 0 long 0 to 0;person b bed 5 to 12 long 0 to 4;"
                + "person c bed 0 to 0 long 0 to 0");
        due("by its SPAN, though they are awake alike", 2, x.ask());
        begin("law hours 2 beside 0 off 0;person a bed 0 to 1 long 1 to 1");
        due("the first LOT and the last", 1, x.ask());
        x.strike(0, 1);
        due("the last alone", 0, x.ask());
        x.still(0);
        due("both again", 1, x.ask());
        x.strike(0, 0);
        due("the first alone", 0, x.ask());
        x.strike(0, 9);
        x.still(0);
        due("both again", 1, x.ask());
        term("(or, for an HOUR: all who are AWAKE in it are told);");
        due("the first LOT and the last, in 0", 1, x.askFor(0));
        due("the first LOT and the last, in 1", 1, x.askFor(1));
        due("all of both again, behind one HOUR", 1, x.ask());
        begin("law hours 2 beside 0 off 0;person a bed 0 to 0 long 0 to 0;person b bed 5 to 12 long 0 to 4");
        due("nothing to be told of the first HOUR", 0, x.askFor(0));
        due("nothing to be told of the last HOUR", 0, x.askFor(1));
        begin(two);
        due("both in HOUR 0", 3, x.askFor(0));
        due("both in HOUR 1", 3, x.askFor(1));
        due("nobody in HOUR 2", 0, x.askFor(2));
        x.strike(0, 1);
        due("one tells of the other", 1, x.askFor(0));
        begin(ONE);
        due("one WORLD: nobody", 0, x.askFor(1));
        begin(six.toString());
        due("all six", 63, x.askFor(0));
        due("nobody in the last HOUR", 0, x.askFor(1));
        term("of like ones the least bits. (400 WORLDS at most.)");
        begin("law hours 4 beside 0 off 0;person z bed 0 to 0 long 0 to 0;person a bed 0 to 1 long 1 to 1;"
                + "person b bed 0 to 1 long 1 to 1;person c bed 0 to 1 long 1 to 1;struck 0 is 2;struck 1 is 3");
        // one of three is awake in 0: two tell of all; the first who doesn't move is never asked
        due("two of three: the least bits", 6, x.ask());
        due("two of three: the least bits", 6, x.askFor(0));
        begin(WORLDS400);
        due("worlds()", 400, x.worlds());
        due("400 WORLDS", 3, x.ask());
        due("400 WORLDS", 3, x.askFor(0));
        begin(WORLDS401);
        due("lots()", 625, x.lots());
        due("worlds()", 401, x.worlds());
        none("401 WORLDS", 3, x.ask());
        none("401 WORLDS, for an HOUR", 3, x.askFor(0));
        x.strike(0, 1);
        fine("fewer by a stroke", 3, x.ask());
        x.still(0);
        none("401 again", 3, x.ask());
    }

    private static void lie() {
        term("LIE: what was told (ASLEEP in all these HOURS) is so in no WORLD.");
        String law = "law hours 6 beside 0 off 0;person a bed 1 to 2 long 0 to 2;told a 1 to 2;told a 1 to 3"
                + ";told a 1 to 4;"
                + "told a 2 to 24";
        begin(law);
        due("in one HOUR", 0, x.lie(0));
        due("in two", 0, x.lie(1));
        due("in three: longer than it slept", 1, x.lie(2));
        due("up to the last HOUR", 1, x.lie(3));
        x.strike(1, 1);
        due("awake in the first of them", 1, x.lie(0));
        due("awake in the first of them", 1, x.lie(1));
        x.still(1);
        x.strike(3, 0);
        // (2, 2) alone
        due("not asleep in the first of them in the only WORLD", 1, x.lie(1));
        x.strike(3, 9);
        due("no WORLD", 1, x.lie(0));
        begin("law hours 3 beside 0 off 0;person a bed 2 to 2 long 12 to 12;told a 2 to 24;told a 3 to 24"
                + ";told a 1 to 3;told a 0 to 1");
        due("from the last HOUR on", 0, x.lie(0));
        due("of no HOUR", 0, x.lie(1));
        due("one HOUR of two", 1, x.lie(2));
        due("the first HOUR", 1, x.lie(3));
        begin("law hours 24 beside 0 off 0;person a bed 0 to 0 long 12 to 12 nap 12 to 24;told a 0 to 24");
        due("asleep in all 24", 0, x.lie(0));
        begin("law hours 24 beside 0 off 0;person a bed 0 to 0 long 12 to 12 nap 12 to 23;told a 0 to 24");
        due("awake in the last of 24", 1, x.lie(0));
        begin("law hours 2 beside 0 off 0;person a bed 0 to 0 long 0 to 1;person b bed 0 to 0 long 1 to 1;apart a,b"
                + ";told a 0 to 1;"
                + "told b 0 to 1");
        due("asleep with one apart", 1, x.lie(0));
        due("the other", 0, x.lie(1));
        begin("law hours 24 beside 0 off 0" + forty("ab") + ";told b 11 to 12;told b 10 to 11;told b 6 to 11"
                + ";told b 7 to 11");
        int[] lies = {1, 0, 1, 0};
        for (int told = 0; told < 4; told++) {
            due("of 40 SPANS, in none or in the last alone", lies[told], x.lie(told));
        }
        begin("law hours 2 beside 0 off 0;person a bed 0 to 0 long 2 to 2 away;told a 0 to 1;told a 2 to 3");
        due("away: not asleep", 1, x.lie(0));
        due("away, of no HOUR", 0, x.lie(1));
    }

    private static void bars() {
        term("BARS: the first HOUR by whose strokes and those ahead alone it is so in none (with off as it is, and "
                + "those apart);");
        String law = "law hours 6 beside 0 off 0;person a bed 0 to 5 long 1 to 1;told a 3 to 4;told a 0 to 1";
        begin(law + ";struck 3 is 1");
        due("the HOUR that is told", 3, x.bars(0));
        due("no lie", -2, x.bars(1));
        begin(law + ";struck 5 is 0");
        due("the last HOUR", 5, x.bars(0));
        due("the last HOUR", 5, x.bars(1));
        begin(law + ";struck 0 is 0;struck 5 is 9");
        due("the first HOUR", 0, x.bars(0));
        due("by all of them together with the last", 5, x.bars(1));
        begin(law + ";struck 1 is 1;struck 2 is 1;struck 3 is 1;struck 4 is 1");
        due("those ahead don't yet", 3, x.bars(0));
        String off = "law hours 6 beside 0 off ";
        String awake = ";person a bed 5 to 5 long 1 to 1;told a 5 to 6" + struckIn(5, 2);
        begin(off + "0" + awake);
        due("off 0: the first that is OFF", 0, x.bars(0));
        begin(off + "1" + awake);
        due("off 1: the second", 1, x.bars(0));
        begin(off + "3" + awake);
        due("off 3: the fourth", 3, x.bars(0));
        begin(off + "3" + awake.replace("struck 2 is 2", "struck 2 is 3"));
        due("off 3: one that is neither", 2, x.bars(0));
        begin(off + "3;person a bed 5 to 5 long 1 to 1;told a 5 to 6;struck 1 is 2;struck 3 is 2;struck 4 is 2");
        due("off 3: three are no bar", -2, x.bars(0));
        begin("law hours 3 beside 0 off 0;person a bed 0 to 0 long 0 to 1;person b bed 0 to 0 long 0 to 1;apart a,b"
                + ";told a 0 to 1;"
                + "struck 1 is 2;struck 2 is 9;struck 0 is 2");
        due("both awake in 0", 0, x.bars(0));
        x.strike(0, 1);
        due("the other is awake in 0, then", 2, x.bars(0));
        term("-1,000 if nothing struck does but those apart.");
        begin("law hours 3 beside 0 off 0;person a bed 0 to 0 long 0 to 1;person b bed 0 to 0 long 1 to 1;apart a,b"
                + ";told a 0 to 1");
        due("nothing struck, those apart do", -1000, x.bars(0));
        x.strike(0, 9);
        due("something struck, those apart do", -1000, x.bars(0));
        begin(SPANLESS);
        due("no LOT at all", -1000, x.bars(0));
        begin(law.replace("told a 3 to 4", "told a 3 to 5") + ";struck 0 is 9");
        due("no SPAN does", -1000, x.bars(0));
        due("others are barred", 0, x.bars(1));
    }

    private static void proof() {
        term("PROOF: if there is no WORLD: the fewest HOURS struck, 3 at most, by which alone there is none;");
        begin(NEVER);
        due("one", 1, x.proof());
        begin("law hours 24 beside 0 off 0" + ALWAYS + ";struck 23 is 9");
        due("the last HOUR", 1 << 23, x.proof());
        begin("law hours 4 beside 0 off 0;person a bed 0 to 3 long 1 to 1;struck 0 is 0;struck 3 is 0");
        due("two", 9, x.proof());
        begin("law hours 4 beside 0 off 0;person a bed 0 to 2 long 1 to 1;struck 0 is 1;struck 1 is 1;struck 2 is 1");
        due("three", 7, x.proof());
        begin("law hours 4 beside 0 off 0;person a bed 0 to 3 long 1 to 1" + struckIn(4, 1));
        due("four would do, three don't", -2, x.proof());
        for (int off = 0; off <= 3; off++) {
            begin("law hours 6 beside 0 off " + off + ALWAYS + ";struck 1 is 2;struck 2 is 0;struck 4 is 2"
                    + ";struck 5 is 0");
            due("each is OFF, off " + off, new int[] {2, 6, 22, -2}[off], x.proof());
        }
        begin("law hours 2 beside 0 off 0;person a bed 0 to 0 long 1 to 1;person b bed 0 to 0 long 1 to 1;apart a,b"
                + ";struck 0 is 9");
        due("those apart alone: no HOUR", 0, x.proof());
        begin("law hours 2 beside 0 off 0;person a bed 0 to 0 long 1 to 1;person b bed 0 to 0 long 1 to 1;apart a,b");
        due("those apart alone, nothing struck", 0, x.proof());
        begin(SPANLESS);
        due("no LOT: no HOUR", 0, x.proof());
        String first = "law hours 24 beside 0 off ";
        begin(first + "0;person a bed 22 to 23 long 1 to 1" + struckIn(22, 1) + ";struck 22 is 0;struck 23 is 0");
        due("the last two of 24", 3 << 22, x.proof());
        begin(first + "2" + ALWAYS + struckIn(21, 1) + ";struck 21 is 2;struck 22 is 2;struck 23 is 2");
        due("the last three of 24", 7 << 21, x.proof());
        String oneIsOff = struckIn(21, 1).replace("struck 10 is 1", "struck 10 is 0");
        begin(first + "2" + ALWAYS + oneIsOff + ";struck 22 is 2;struck 23 is 2");
        due("one between and the last two", 3 << 22 | 1 << 10, x.proof());
        begin(first + "3" + ALWAYS + struckIn(20, 1) + ";struck 20 is 2;struck 21 is 2;struck 22 is 2;struck 23 is 2");
        due("four of 24: three don't do", -2, x.proof());
        begin(first + "3" + ALWAYS + struckIn(24, 2));
        due("any four of 24: three don't do", -2, x.proof());
        begin("law hours 4 beside 0 off 0;person a bed 0 to 2 long 1 to 1;struck 0 is 1;struck 1 is 1;struck 2 is 1");
        x.say(0, 2);
        x.can();
        x.judge();
        due("whatever is SAID, and judged ahead", 7, x.proof());
        term("of like ones the least bits. (5,000 LOTS at most.)");
        begin("law hours 24 beside 0 off 0" + ALWAYS + struckIn(24, 9));
        due("of 24 alike", 1, x.proof());
        begin("law hours 24 beside 0 off 1" + ALWAYS + struckIn(24, 2));
        due("two of 24 alike", 3, x.proof());
        begin("law hours 24 beside 0 off 2" + ALWAYS + struckIn(24, 2));
        due("three of 24 alike", 7, x.proof());
        begin("law hours 5 beside 0 off 0;person a bed 0 to 1 long 1 to 1;person b bed 3 to 4 long 1 to 1;"
                + "struck 0 is 2;struck 1 is 2;struck 3 is 2;struck 4 is 2");
        due("two pairs that do: the least bits, not the first HOUR's", 3, x.proof());
        begin("law hours 6 beside 0 off 0;person a bed 0 to 1 long 1 to 1;person b bed 2 to 3 long 1 to 1;"
                + "struck 0 is 2;struck 5 is 1;struck 4 is 9");
        due("one ahead of another", 16, x.proof());
        begin(LOTS5000 + ";struck 23 is 9");
        due("lots()", 5000, x.lots());
        due("5,000 LOTS", 1 << 23, x.proof());
        begin(LOTS5022 + ";struck 2 is 9");
        due("lots()", 5022, x.lots());
        none("5,022 LOTS", 3, x.proof());
    }

    private static void beside() {
        term("BESIDE in an HOUR that was struck: what was struck less STRIKES, the least and the greatest by all "
                + "WORLDS.");
        String law = "law hours 2 beside 9 off 1;person a bed 0 to 0 long 0 to 1;person b bed 0 to 0 long 0 to 1"
                + ";struck 0 is ";
        int[] least = {-1, -1, 0, 1, 2, 7, 8, 9, 10};
        int[] greatest = {0, 1, 2, 3, 4, 9, 10, 10, 10};
        int[] struck = {0, 1, 2, 3, 4, 9, 10, 11, 12};
        for (int k = 0; k < struck.length; k++) {
            begin(law + struck[k]);
            due("struck " + struck[k] + ", the least", least[k], x.part(0, false));
            due("struck " + struck[k] + ", the greatest", greatest[k], x.part(0, true));
        }
        begin("law hours 24 beside 9 off 0" + ALWAYS + ";struck 0 is 1;struck 23 is 10");
        due("one WORLD, the first HOUR", 0, x.part(0, true));
        due("one WORLD, the first HOUR", 0, x.part(0, false));
        due("one WORLD, the last HOUR", 9, x.part(23, true));
        due("one WORLD, the last HOUR", 9, x.part(23, false));
        x.strike(23, 1);
        due("struck anew", 0, x.part(23, true));
        begin("law hours 2 beside 9 off 0;person a bed 0 to 0 long 0 to 1;person b bed 0 to 0 long 0 to 1"
                + ";struck 0 is 9");
        for (int k = 0; k < 3; k++) {
            due("all WORLDS, the least", 7, x.part(0, false));
            due("all WORLDS, the greatest", 9, x.part(0, true));
            x.strike(0, 0);
            due("asleep both, counted anew, the least", 0, x.part(0, false));
            due("asleep both, counted anew, the greatest", 0, x.part(0, true));
            x.strike(0, 9);
        }
        begin("law hours 1 beside 0 off 0;person a bed 0 to 0 long 1 to 1;struck 0 is 0");
        due("nothing struck, none strikes", 0, x.part(0, true));
    }

    private static void nothing() {
        term("NOTHING: HOURS in which STRIKES is 0 in some LOT in which no two apart are ASLEEP at once.");
        begin("law hours 24 beside 0 off 0;person a bed 0 to 0 long 12 to 12 nap 12 to 24");
        due("in all 24", 0xFFFFFF, x.nothing());
        begin("law hours 24 beside 0 off 0" + ALWAYS);
        due("in none", 0, x.nothing());
        begin("law hours 24 beside 0 off 0;person a bed 16 to 23 long 0 to 1");
        due("the last HOUR by the last LOT", 255 << 16, x.nothing());
        x.strike(20, 9);
        due("whatever is struck", 255 << 16, x.nothing());
        begin("law hours 24 beside 0 off 0;person a bed 16 to 23 long 0 to 1;born 23");
        due("born in the last HOUR", 127 << 16, x.nothing());
        begin("law hours 24 beside 0 off 0;person a bed 16 to 23 long 0 to 1;born 0");
        due("born in the first HOUR", 0, x.nothing());
        begin("law hours 3 beside 0 off 0;person a bed 0 to 1 long 1 to 1;person b bed 0 to 0 long 2 to 2 nap 2 to 3");
        due("not apart", 3, x.nothing());
        begin("law hours 3 beside 0 off 0;person a bed 0 to 1 long 1 to 1;person b bed 0 to 0 long 1 to 1;"
                + "person c bed 1 to 1 long 1 to 1 away;apart a,b");
        due("apart, in some LOTS", 0, x.nothing());
        begin("law hours 3 beside 0 off 0;person a bed 0 to 1 long 1 to 1;person b bed 0 to 0 long 0 to 0 away"
                + ";apart a,b");
        due("apart from one away", 3, x.nothing());
        begin(SPANLESS);
        due("no LOT", 0, x.nothing());
        String asleep = "law hours 3 beside 0 off 0;person a bed 0 to 0 long 3 to 3";
        String[] births = {"", ";born 0", ";born 0;born 2", ";born 2;born 0", ";born 1;born 2", ";born 2;born 1",
                ";born 2"};
        int[] silent = {7, 0, 0, 0, 1, 1, 3};
        for (int k = 0; k < births.length; k++) {
            begin(asleep + births[k]);
            due("births" + births[k], silent[k], x.nothing());
            due("another text", 1, Texts.parish(x, asleep));
            due("nobody born in another text", 7, x.nothing());
        }
    }

    private static void keep() {
        term("KEEP: the fewest offers by which in each HOUR one watches at least; of like ones the least bits.");
        begin("law hours 24 beside 0 off 0" + ALWAYS + ";offer a 0 to 24");
        due("one for all 24", 1, x.keep());
        begin("law hours 24 beside 0 off 0" + ALWAYS + ";offer a 0 to 23");
        due("nobody in the last HOUR", -2, x.keep());
        begin("law hours 24 beside 0 off 0" + ALWAYS + ";offer a 1 to 24");
        due("nobody in the first HOUR", -2, x.keep());
        begin("law hours 24 beside 0 off 0" + ALWAYS + ";offer a 0 to 12;offer a 13 to 24");
        due("nobody in one between", -2, x.keep());
        begin("law hours 23 beside 0 off 0" + ALWAYS + ";offer a 0 to 23");
        due("up to the last HOUR", 1, x.keep());
        begin("law hours 6 beside 0 off 0" + ALWAYS + ";offer a 0 to 1;offer a 1 to 2;offer a 2 to 3;offer a 3 to 4;"
                + "offer a 4 to 5;offer a 5 to 6");
        due("all six", 63, x.keep());
        begin("law hours 6 beside 0 off 0" + ALWAYS + repeat(";offer a 0 to 6", 6));
        due("of six alike the first", 1, x.keep());
        begin("law hours 6 beside 0 off 0" + ALWAYS + ";offer a 0 to 3;offer a 3 to 5;offer a 5 to 6;offer a 0 to 4;"
                + "offer a 4 to 6;offer a 3 to 6");
        due("two rather than three, the least bits: 0 and 4 don't, 3 and 4 do", 24, x.keep());
        begin("law hours 6 beside 0 off 0" + ALWAYS + ";offer a 0 to 3;offer a 3 to 6;offer a 0 to 3;offer a 3 to 6;"
                + "offer a 0 to 5;offer a 5 to 6");
        due("two of many alike", 3, x.keep());
        begin("law hours 6 beside 0 off 0" + ALWAYS + ";offer a 0 to 3;offer a 0 to 3;offer a 0 to 3;offer a 0 to 3;"
                + "offer a 0 to 3;offer a 0 to 6");
        due("the last alone", 32, x.keep());
        begin("law hours 2 beside 0 off 0;person a bed 0 to 0 long 2 to 2;person b bed 0 to 0 long 0 to 0 away;"
                + "offer a 0 to 1;offer b 1 to 2");
        due("whoever sleeps or is away", 3, x.keep());
    }

    private static void tooMany(String call, long refusal, OfOne asked) {
        begin(OVER);
        refused(call + ", 20,088 LOTS", refusal, 3, asked.of(0));
        begin(OVER_NEVER);
        refused(call + ", 20,088 LOTS and no WORLD", refusal, 3, asked.of(0));
        begin(MOST + ";told a 0 to 1;struck 2 is 6");
        refused(call + ", 4,096,000,000 LOTS", refusal, 3, asked.of(0));
    }

    private static void promise32() {
        promise(32, "ASK, as bits.");
        begin(PAIR);
        fine("both", 3, x.ask());
        begin(ONE);
        fine("nobody", 0, x.ask());
        promise(32, "NONE: 1 (no PARISH); 3 (also: more than 400 WORLDS); 6 (no WORLD).");
        x = new StrikeAwake();
        none("no PARISH", 1, x.ask());
        tooMany("ask", -1, n -> x.ask());
        begin(WORLDS401);
        none("401 WORLDS", 3, x.ask());
        begin(WORLDS400);
        fine("400 WORLDS", 3, x.ask());
        begin(FULL);
        none("20,000 WORLDS", 3, x.ask());
        x.strike(2, 99);
        none("20,000 LOTS, no WORLD", 6, x.ask());
        begin(NEVER);
        none("no WORLD", 6, x.ask());
        begin(SPANLESS);
        none("no LOT", 6, x.ask());
    }

    private static void promise33() {
        promise(33, "ASK for an HOUR, as bits.");
        begin(PAIR);
        fine("the first HOUR", 1, x.askFor(0));
        fine("the last HOUR", 0, x.askFor(3));
        promise(33, "NONE: 1; 3; 6.");
        numbers("askFor", 3, -1, hour -> x.askFor(hour));
        x = new StrikeAwake();
        none("no PARISH", 1, x.askFor(0));
        tooMany("askFor", -1, n -> x.askFor(0));
        begin(WORLDS401);
        none("401 WORLDS", 3, x.askFor(0));
        none("no HOUR, and 401 WORLDS", 1, x.askFor(24));
        begin(WORLDS400);
        fine("400 WORLDS", 3, x.askFor(0));
        begin(OVER);
        none("no HOUR, and 20,088 LOTS", 1, x.askFor(24));
        begin(NEVER);
        none("no WORLD", 6, x.askFor(0));
        none("no HOUR, and no WORLD", 1, x.askFor(3));
        none("no HOUR, and no WORLD", 1, x.askFor(-1));
    }

    private static void promise34() {
        promise(34, "LIE of what was told: 1, 0.");
        begin(ONE + ";told a 1 to 2;told a 0 to 1;told a 1 to 2;told a 2 to 3");
        int[] lies = {0, 1, 0, 1};
        for (int told = 0; told < 4; told++) {
            fine("the first to the last", lies[told], x.lie(told));
        }
        promise(34, "NONE: 1; 3.");
        numbers("lie", 3, -1, told -> x.lie(told));
        begin(ONE);
        none("nothing told", 1, x.lie(0));
        x = new StrikeAwake();
        none("no PARISH", 1, x.lie(0));
        tooMany("lie", -1, n -> x.lie(0));
        begin(OVER);
        none("no such, and 20,088 LOTS", 1, x.lie(1));
        none("no such, and 20,088 LOTS", 1, x.lie(-1));
        begin(FULL);
        fine("20,000 LOTS", 0, x.lie(0));
        begin(NEVER);
        fine("no WORLD", 1, x.lie(0));
        none("no such, and no WORLD", 1, x.lie(2));
    }

    private static void promise35() {
        promise(35, "BARS; -2 if it is no LIE.");
        begin(ONE + ";told a 1 to 2;told a 0 to 1;struck 2 is 1");
        fine("no lie", -2, x.bars(0));
        fine("a lie", -1000, x.bars(1));
        begin(NEVER);
        fine("a lie by HOUR 0", 0, x.bars(0));
        x.still(0);
        fine("no lie any more", -2, x.bars(0));
        promise(35, "NONE: 1; 3.");
        numbers("bars", 1, -1, told -> x.bars(told));
        begin(ONE);
        none("nothing told", 1, x.bars(0));
        x = new StrikeAwake();
        none("no PARISH", 1, x.bars(0));
        tooMany("bars", -1, n -> x.bars(0));
        begin(OVER);
        none("no such, and 20,088 LOTS", 1, x.bars(1));
        none("no such, and 20,088 LOTS", 1, x.bars(-1));
        begin(FULL);
        fine("20,000 LOTS", -2, x.bars(0));
        x.strike(2, 99);
        fine("20,000 LOTS, no WORLD", 2, x.bars(0));
    }

    private static void promise36() {
        promise(36, "PROOF, as bits; -2 if 3 HOURS don't do.");
        begin(NEVER);
        fine("one HOUR", 1, x.proof());
        begin("law hours 4 beside 0 off 3" + ALWAYS + struckIn(4, 2));
        fine("four HOURS", -2, x.proof());
        x.strike(2, 3);
        fine("one of them alone", 4, x.proof());
        promise(36, "NONE: 1 (no PARISH); 3 (also: more than 5,000 LOTS); 5 (there is a WORLD).");
        x = new StrikeAwake();
        none("no PARISH", 1, x.proof());
        tooMany("proof", -1, n -> x.proof());
        begin(LOTS5000);
        none("5,000 LOTS and a WORLD", 5, x.proof());
        x.strike(23, 99);
        fine("5,000 LOTS", 1 << 23, x.proof());
        begin(LOTS5022 + ";struck 2 is 99");
        none("5,022 LOTS", 3, x.proof());
        begin(LOTS5022 + ";struck 2 is 1");
        due("there is a WORLD", 1, x.can());
        none("5,022 LOTS and a WORLD", 3, x.proof());
        begin(FULL);
        none("20,000 LOTS and a WORLD", 3, x.proof());
        begin(ONE);
        none("one WORLD", 5, x.proof());
        x.strike(0, 1);
        none("one WORLD by a stroke", 5, x.proof());
        x.strike(0, 2);
        fine("no WORLD", 1, x.proof());
    }

    private static void promise37() {
        promise(37, "BESIDE, the least (or greatest).");
        begin("law hours 2 beside 9 off 0;person a bed 0 to 0 long 0 to 1;struck 0 is 5;struck 1 is 5");
        fine("the least", 4, x.part(0, false));
        fine("the greatest", 5, x.part(0, true));
        fine("the last HOUR", 4, x.part(1, true));
        promise(37, "-1,000: 1 (HOUR; nothing was struck); 3; 6 (no WORLD).");
        numbers("part", 1, -1000, hour -> x.part(hour, true));
        numbers("part, the least", 1, -1000, hour -> x.part(hour, false));
        x.still(1);
        refused("nothing was struck any more", -1000, 1, x.part(1, true));
        x = new StrikeAwake();
        refused("no PARISH", -1000, 1, x.part(0, true));
        tooMany("part", -1000, n -> x.part(2, true));
        begin(OVER);
        refused("no HOUR, and 20,088 LOTS", -1000, 1, x.part(24, true));
        refused("nothing was struck, and 20,088 LOTS", -1000, 1, x.part(3, true));
        begin(NEVER);
        refused("no WORLD", -1000, 6, x.part(0, true));
        refused("nothing was struck, and no WORLD", -1000, 1, x.part(1, true));
        refused("no HOUR, and no WORLD", -1000, 1, x.part(3, true));
        begin(SPANLESS);
        refused("no LOT", -1000, 6, x.part(1, false));
        begin(FULL);
        fine("20,000 WORLDS", 0, x.part(2, false));
    }

    private static void promise38() {
        promise(38, "NOTHING, as bits.");
        begin(ONE);
        fine("one LOT", 2, x.nothing());
        begin(PAIR);
        fine("eight LOTS", 6, x.nothing());
        begin(FULL);
        fine("20,000 LOTS", 127, x.nothing());
        promise(38, "NONE: 1 (no PARISH); 3.");
        x = new StrikeAwake();
        none("no PARISH", 1, x.nothing());
        tooMany("nothing", -1, n -> x.nothing());
        begin(NEVER);
        fine("no WORLD", 2, x.nothing());
    }

    private static void promise39() {
        promise(39, "KEEP, as bits; -2 if all offers don't do.");
        begin(ONE);
        fine("no offers", -2, x.keep());
        begin(ONE + ";offer a 0 to 2");
        fine("one that doesn't", -2, x.keep());
        begin(ONE + ";offer a 0 to 3");
        fine("one that does", 1, x.keep());
        begin(OVER + ";offer b 0 to 24");
        fine("however many LOTS", 1, x.keep());
        begin(SPANLESS + ";offer a 0 to 3");
        fine("no LOT", 1, x.keep());
        promise(39, "NONE: 1 (no PARISH).");
        x = new StrikeAwake();
        none("no PARISH", 1, x.keep());
    }

    private static void promise40() {
        promise(40, "HOURS in which k (0 .. 99) or fewer were struck, as bits.");
        begin("law hours 24 beside 0 off 0" + ALWAYS);
        fine("nothing struck", 0, x.quiet(99));
        x.strike(0, 0);
        x.strike(23, 99);
        x.strike(5, 50);
        fine("0", 1, x.quiet(0));
        fine("49", 1, x.quiet(49));
        fine("50", 1 + 32, x.quiet(50));
        fine("98", 1 + 32, x.quiet(98));
        fine("99", 1 + 32 + (1 << 23), x.quiet(99));
        begin("law hours 24 beside 0 off 0" + ALWAYS + struckIn(24, 0));
        fine("all", 0xFFFFFF, x.quiet(0));
        promise(40, "NONE: 1 (no PARISH); 2.");
        for (int k : new int[] {-1, 100, Integer.MIN_VALUE, Integer.MAX_VALUE}) {
            none("quiet(" + k + ")", 2, x.quiet(k));
            StrikeAwake with = x;
            x = new StrikeAwake();
            none("no PARISH, quiet(" + k + ")", 1, x.quiet(k));
            x = with;
        }
        x = new StrikeAwake();
        none("no PARISH", 1, x.quiet(0));
    }
}
