/** The edges of SPANS, STRIKES, LOTS and what is SAID (Terms, II) and of promises 6 to 15. */
final class SpanEdges extends Edge {
    private static final int ALL = 0xFFFFFF;

    private SpanEdges() {
    }

    static void run() {
        asleep();
        nap();
        away();
        awake();
        sexton();
        numbered();
        strikes();
        agreesAndOff();
        lots();
        worlds();
        order();
        room();
        said();
        wrong();
        weight();
        promise6();
        promise7();
        promise8();
        promise9();
        promise10();
        promise11();
        promise12();
        promise13();
        promise14();
        promise15();
    }

    /** HOURS from one up to the one ahead of another, as bits; no HOUR behind 23. */
    private static int hours(int from, int to) {
        int bits = 0;
        for (int hour = from; hour < to && hour < 24; hour++) {
            bits |= 1 << hour;
        }
        return bits;
    }

    private static void asleep() {
        term("II. A SPAN of a person: bed at an HOUR b, so long l, as told: it is ASLEEP in HOURS b up to b and l "
                + "less 1;");
        begin("law hours 24 beside 0 off 0;person a bed 16 to 23 long 8 to 12;person b bed 0 to 7 long 0 to 4;"
                + "person c bed 11 to 13 long 0 to 2");
        for (int person = 0; person < 3; person++) {
            for (int i = 0; i < x.spans(person); i++) {
                int b = x.span(person, i, 0);
                int l = x.span(person, i, 1);
                due("b " + b + ", l " + l + ", awake in", ALL & ~hours(b, b + l), awakeIn(person, i));
            }
        }
        begin("law hours 24 beside 0 off 0;person a bed 23 to 23 long 12 to 12;person b bed 0 to 0 long 12 to 12;"
                + "person c bed 23 to 23 long 0 to 1;person d bed 0 to 0 long 0 to 1");
        due("sleep that goes on beyond HOUR 23 begins no HOUR 0", ALL & ~(1 << 23), awakeIn(0, 0));
        due("twelve HOURS from 0 on", ALL & ~0xFFF, awakeIn(1, 0));
        due("no sleep at the last HOUR", ALL, awakeIn(2, 0));
        due("the last HOUR alone", ALL & ~(1 << 23), awakeIn(2, 1));
        due("no sleep at the first HOUR", ALL, awakeIn(3, 0));
        due("the first HOUR alone", ALL & ~1, awakeIn(3, 1));
        begin("law hours 3 beside 0 off 0;person a bed 0 to 4 long 0 to 4");
        int[] wakes = {7, 6, 4, 0, 0, 7, 5, 1, 1, 1, 7, 3, 3, 3, 3, 7, 7, 7, 7, 7, 7, 7, 7, 7, 7};
        for (int i = 0; i < 25; i++) {
            due("beyond the last HOUR, span " + i, wakes[i], awakeIn(0, i));
        }
        begin("law hours 1 beside 0 off 0;person a bed 0 to 1 long 0 to 1");
        int[] one = {1, 0, 1, 1};
        for (int i = 0; i < 4; i++) {
            due("one HOUR, span " + i, one[i], awakeIn(0, i));
        }
    }

    private static void nap() {
        term("and in those of its nap (from .. to less 1).");
        String law = "law hours 24 beside 0 off 0;person a bed 5 to 5 long 2 to 2 nap ";
        int[][] naps = {{0, 1}, {0, 24}, {23, 24}, {5, 7}, {6, 8}, {4, 6}, {4, 8}, {3, 5}, {7, 9}, {11, 13}};
        for (int[] nap : naps) {
            begin(law + nap[0] + " to " + nap[1]);
            due("nap " + nap[0] + " to " + nap[1], ALL & ~(hours(5, 7) | hours(nap[0], nap[1])), awakeIn(0, 0));
            due("l without it", 2, x.span(0, 0, 1));
            due("b without it", 5, x.span(0, 0, 0));
        }
        begin("law hours 3 beside 0 off 0;person a bed 0 to 0 long 0 to 0 nap 2 to 24;"
                + "person b bed 0 to 0 long 0 to 0 nap 3 to 4;person c bed 0 to 0 long 1 to 1 nap 1 to 2");
        due("a nap beyond the last HOUR", 3, awakeIn(0, 0));
        due("a nap behind the last HOUR", 7, awakeIn(1, 0));
        due("a nap next to the sleep", 4, awakeIn(2, 0));
    }

    private static void away() {
        term("One that is away has one SPAN, b 0 and l 0, and is never ASLEEP; nor AWAKE.");
        begin("law hours 4 beside 0 off 0;person a bed 3 to 8 long 2 to 6 nap 0 to 24 away"
                + ";person b bed 0 to 0 long 4 to 4;"
                + "apart a,b;told a 0 to 1;told a 3 to 4");
        due("spans(0)", 1, x.spans(0));
        due("b", 0, x.span(0, 0, 0));
        due("l", 0, x.span(0, 0, 1));
        due("awake in", 0, awakeIn(0, 0));
        none("no second span", 1, x.span(0, 1, 0));
        for (int hour = 0; hour < 4; hour++) {
            due("strikes(" + hour + ")", 0, x.strikes(hour));
            due("hiding(0, " + hour + ")", 0, x.hiding(0, hour));
            due("hiding(1, " + hour + ")", 0, x.hiding(1, hour));
            due("sure(0, " + hour + ")", 0, x.sure(0, hour));
        }
        due("never asleep with one apart: judge()", -2, x.judge());
        due("never asleep with one apart: worlds()", 1, x.worlds());
        due("told asleep: lie(0)", 1, x.lie(0));
        due("told asleep: lie(1)", 1, x.lie(1));
        due("told asleep: bars(0)", -1000, x.bars(0));
        due("together(0, 1)", 0, x.together(0, 1));
    }

    private static void awake() {
        term("Others are AWAKE when they aren't ASLEEP.");
        begin("law hours 24 beside 0 off 0;person a bed 0 to 0 long 0 to 0;person b bed 0 to 0 long 0 to 0 nap 0 to 24;"
                + "told b 0 to 24;told a 0 to 1");
        due("never asleep, always awake", ALL, awakeIn(0, 0));
        due("always asleep, never awake", 0, awakeIn(1, 0));
        due("asleep in all: lie(0)", 0, x.lie(0));
        due("asleep in none: lie(1)", 1, x.lie(1));
    }

    private static void sexton() {
        term("The SPANS of the sexton are those alone in which it is AWAKE in all HOURS struck in the text (away: its "
                + "one).");
        String law = "law hours 6 beside 0 off 0;person s bed 2 to 2 long 2 to 2;sexton s";
        int[] spans = {1, 1, 0, 0, 1, 1};
        for (int hour = 0; hour < 6; hour++) {
            begin(law + ";struck " + hour + " is 0");
            due("asleep in 2 and 3, struck " + hour, spans[hour], x.spans(0));
        }
        begin(law);
        due("nothing struck", 1, x.spans(0));
        fine("struck later", 1, x.strike(2, 1));
        due("struck later, its spans stay", 1, x.spans(0));
        begin(law + ";struck 2 is 1");
        due("still(2)", true, x.still(2));
        due("struck no more, its spans stay", 0, x.spans(0));
        due("struck no more, there is no LOT", 0, x.lots());
        begin("law hours 6 beside 0 off 0;struck 2 is 1;person t bed 2 to 2 long 2 to 2"
                + ";person s bed 2 to 3 long 0 to 2;"
                + "sexton s;struck 4 is 1");
        // (2,0) (2,1)- (2,2)- (3,0) (3,1) (3,2)-
        due("struck ahead of its LINE and behind it", 3, x.spans(1));
        int[][] left = {{2, 0}, {3, 0}, {3, 1}};
        for (int i = 0; i < 3; i++) {
            due("what is left, b", left[i][0], x.span(1, i, 0));
            due("what is left, l", left[i][1], x.span(1, i, 1));
        }
        due("others have all theirs", 1, x.spans(0));
        begin("law hours 4 beside 0 off 0;person s bed 0 to 7 long 0 to 4;sexton s" + struckIn(4, 1));
        due("all HOURS struck, asleep in none: b 4 to 7 or l 0", 4 + 20, x.spans(0));
        begin("law hours 4 beside 0 off 0;person s bed 0 to 7 long 0 to 4 nap 3 to 4;sexton s;struck 3 is 1");
        due("a nap in an HOUR struck", 0, x.spans(0));
        begin("law hours 4 beside 0 off 0;person s bed 0 to 7 long 0 to 4 nap 3 to 4;sexton s;struck 4 is 1");
        due("struck in no HOUR", 40, x.spans(0));
        begin("law hours 4 beside 0 off 0;person s bed 0 to 7 long 1 to 4 nap 0 to 4 away;sexton s" + struckIn(4, 0));
        due("away: its one", 1, x.spans(0));
        due("away: worlds()", 1, x.worlds());
        begin("law hours 4 beside 0 off 0;person t bed 0 to 0 long 4 to 4;person s bed 0 to 0 long 4 to 4"
                + ";struck 0 is 1");
        due("without a sexton all have theirs", 1, x.lots());
    }

    private static void numbered() {
        term("SPANS by b, then l, have numbers from 0 on.");
        begin("law hours 24 beside 0 off 0;person a bed 16 to 23 long 8 to 12;person b bed 5 to 5 long 3 to 3");
        for (int i = 0; i < 40; i++) {
            due("b of " + i, 16 + i / 5, x.span(0, i, 0));
            due("l of " + i, 8 + i % 5, x.span(0, i, 1));
        }
        none("behind the last", 1, x.span(0, 40, 0));
        due("the only one", 5, x.span(1, 0, 0));
        none("behind the only one", 1, x.span(1, 1, 0));
        begin("law hours 24 beside 0 off 0;person s bed 0 to 7 long 0 to 4;sexton s;struck 7 is 1");
        // those without (4,4) (5,3) (5,4) (6,2) (6,3) (6,4) (7,1) .. (7,4)
        due("spans(0)", 30, x.spans(0));
        due("the last of them, b", 7, x.span(0, 29, 0));
        due("the last of them, l", 0, x.span(0, 29, 1));
        due("the one ahead, b", 6, x.span(0, 28, 0));
        due("the one ahead, l", 1, x.span(0, 28, 1));
        none("behind the last", 1, x.span(0, 30, 0));
    }

    private static void strikes() {
        term("STRIKES in an HOUR: how many are AWAKE, and one for each born in it or ahead.");
        StringBuilder six = new StringBuilder();
        for (char name = 'a'; name < 'g'; name++) {
            six.append(";person ").append(name).append(" bed 12 to 12 long 0 to 1");
        }
        begin("law hours 24 beside 0 off 0" + six + ";born 0;born 0;born 0");
        for (int hour = 0; hour < 24; hour++) {
            due("nine, the most, in " + hour, 9, x.strikes(hour));
        }
        for (int person = 0; person < 6; person++) {
            x.say(person, 1);
            due("asleep at noon: " + (person + 1), 8 - person, x.strikes(12));
        }
        due("the HOUR ahead of noon", 9, x.strikes(11));
        due("the HOUR behind noon", 9, x.strikes(13));
        begin("law hours 24 beside 0 off 0;person a bed 0 to 0 long 0 to 0 nap 0 to 24;born 23;born 1;born 12");
        int[] due = new int[24];
        for (int birth : new int[] {1, 12, 23}) {
            for (int hour = birth; hour < 24; hour++) {
                due[hour]++;
            }
        }
        for (int hour = 0; hour < 24; hour++) {
            due("born alone, in " + hour, due[hour], x.strikes(hour));
        }
        begin("law hours 2 beside 0 off 0;person a bed 0 to 0 long 2 to 2");
        due("none at all, the first HOUR", 0, x.strikes(0));
        due("none at all, the last HOUR", 0, x.strikes(1));
        begin("law hours 2 beside 0 off 0;person a bed 0 to 0 long 2 to 2;born 1;born 2");
        due("born behind it", 0, x.strikes(0));
        due("born in it, and one behind the last HOUR", 1, x.strikes(1));
    }

    private static void agreesAndOff() {
        for (int beside : new int[] {0, 1, 9}) {
            for (int off : new int[] {0, 1, 3}) {
                begin("law hours 2 beside " + beside + " off " + off + ";person a bed 0 to 0 long 0 to 0;born 0");
                term("What is struck in an HOUR AGREES if it is STRIKES, or up to beside more;");
                for (int many = 0; many <= 13; many++) {
                    x.strike(1, many);
                    boolean agrees = many >= 2 && many <= 2 + beside;
                    due("beside " + beside + ", two strike, struck " + many, agrees ? -2 : 1, x.judge());
                }
                term("it is OFF if it is one less than that, or one more.");
                for (int many = 0; many <= 13; many++) {
                    x.strike(1, many);
                    boolean agrees = many >= 2 && many <= 2 + beside;
                    boolean isOff = many == 1 || many == 3 + beside;
                    due("off " + off + ", beside " + beside + ", two strike, struck " + many,
                            agrees || off > 0 && isOff,
                            x.agrees() == 1);
                    due("off " + off + ", beside " + beside + ", two strike, struck " + many, x.agrees(), x.can());
                }
            }
        }
        begin("law hours 1 beside 9 off 1" + repeat(";born 0", 3) + ";person a bed 0 to 0 long 0 to 0;"
                + "person b bed 0 to 0 long 0 to 0;person c bed 0 to 0 long 0 to 0;person d bed 0 to 0 long 0 to 0;"
                + "person e bed 0 to 0 long 0 to 0;person f bed 0 to 0 long 0 to 0");
        int[] struck = {0, 7, 8, 9, 18, 19, 20, 99};
        int[] can = {0, 0, 1, 1, 1, 1, 0, 0};
        for (int k = 0; k < struck.length; k++) {
            x.strike(0, struck[k]);
            due("nine strike, nine beside, struck " + struck[k], can[k], x.can());
        }
        begin("law hours 1 beside 0 off 1;person a bed 0 to 0 long 1 to 1");
        for (int many = 0; many < 4; many++) {
            x.strike(0, many);
            due("none strikes, struck " + many, many < 2 ? 1 : 0, x.can());
        }
    }

    private static void lots() {
        term("A LOT: a SPAN for each.");
        begin(ONE);
        due("one SPAN, one LOT", 1, x.lots());
        begin(PAIR);
        due("4 and 2 SPANS", 8, x.lots());
        begin(MOST);
        due("40 SPANS for each of six", 4096000000L, x.lots());
        begin(SPANLESS);
        due("one without SPANS", 0, x.lots());
        begin("law hours 2 beside 0 off 0" + forty("abcde") + ";person s bed 0 to 0 long 1 to 1;sexton s"
                + ";struck 0 is 1");
        due("one without SPANS behind five of 40", 0, x.lots());
        due("there is no LOT, so that there is room", 0, x.worlds());
        begin("law hours 2 beside 0 off 0;person s bed 0 to 0 long 1 to 1" + forty("abcde") + ";sexton s"
                + ";struck 0 is 1");
        due("one without SPANS ahead of five of 40", 0, x.lots());
        due("there is no LOT, so that there is room", 0, x.worlds());
    }

    private static void worlds() {
        term("It is a WORLD if no two that are apart are ASLEEP in one HOUR, and of what is struck all AGREES but off "
                + "HOURS at most,"
                + " which are OFF.");
        String two = "law hours 6 beside 0 off 3;person a bed 2 to 2 long 2 to 2;person b bed ";
        String[] beds = {"0 to 0 long 2 to 2", "0 to 0 long 3 to 3", "1 to 1 long 2 to 2", "2 to 2 long 2 to 2",
            "3 to 3 long 1 to 1", "3 to 3 long 5 to 5", "4 to 4 long 5 to 5", "2 to 2 long 0 to 0",
                    "0 to 0 long 12 to 12",
            "0 to 0 long 0 to 0 nap 3 to 4", "0 to 0 long 0 to 0 nap 4 to 24", "0 to 0 long 6 to 6 away"};
        int[] can = {1, 0, 0, 0, 0, 0, 1, 1, 0, 0, 1, 1};
        for (int k = 0; k < beds.length; k++) {
            begin(two + beds[k] + ";apart a,b");
            due("apart, b bed " + beds[k], can[k], x.can());
            begin(two + beds[k] + ";apart b,a");
            due("apart the other way round, b bed " + beds[k], can[k], x.can());
            begin(two + beds[k]);
            due("not apart, b bed " + beds[k], 1, x.can());
        }
        begin("law hours 6 beside 0 off 0;person a bed 5 to 5 long 1 to 1;person b bed 5 to 5 long 1 to 1;apart a,b");
        due("in the last HOUR", 0, x.can());
        begin("law hours 5 beside 0 off 0;person a bed 5 to 5 long 1 to 1;person b bed 5 to 5 long 1 to 1;apart a,b");
        due("behind the last HOUR", 1, x.can());
        begin("law hours 6 beside 0 off 0;person a bed 0 to 0 long 1 to 1;person b bed 0 to 0 long 0 to 0;"
                + "person c bed 0 to 0 long 1 to 1;apart a,b;apart b,c");
        due("two apart from one aren't apart", 1, x.can());
        apartFromTwo();
        begin("law hours 24 beside 0 off 0;person a bed 23 to 23 long 1 to 1;person b bed 0 to 0 long 0 to 0;"
                + "person c bed 0 to 0 long 0 to 0;person d bed 0 to 0 long 0 to 0;person e bed 0 to 0 long 0 to 0;"
                + "person f bed 22 to 22 long 2 to 2;apart b,c;apart d,e;apart f,a");
        due("the third pair, the last HOUR", 0, x.can());
        for (int off = 0; off <= 3; off++) {
            String law = "law hours 24 beside 0 off " + off + ";person a bed 0 to 0 long 0 to 0";
            for (int many : new int[] {0, 2}) {
                begin(law + struckIn(off, many) + ";struck 22 is 1");
                due(off + " OFF of " + off + ", struck " + many, 1, x.can());
                x.strike(23, many);
                due("one more", 0, x.can());
                x.strike(23, 1);
                due("one that AGREES", 1, x.can());
                x.strike(23, 3);
                due("one that is neither", 0, x.can());
                x.still(23);
                due("nothing told of it any more", 1, x.can());
            }
        }
        begin(ONE);
        due("nothing struck", 1, x.can());
    }

    private static void apartFromTwo() {
        for (String pairs : new String[] {"c,a;apart c,b", "c,b;apart c,a", "a,c;apart b,c", "b,c;apart c,a"}) {
            for (int beds = 0; beds < 8; beds++) {
                int a = beds & 1;
                int b = beds >> 1 & 1;
                int c = beds >> 2;
                begin("law hours 2 beside 0 off 0" + asleepAt("a", a) + asleepAt("b", b) + asleepAt("c", c)
                        + ";apart " + pairs);
                due("one apart from two, " + pairs + ", asleep at " + a + b + c, a != c && b != c, x.can() == 1);
            }
        }
    }

    private static String asleepAt(String name, int hour) {
        return ";person " + name + " bed " + hour + " to " + hour + " long 1 to 1";
    }

    private static void order() {
        term("LOTS are in order of the SPANS of people by LINES (the last one's change first).");
        begin("law hours 9 beside 0 off 0;person c bed 0 to 1 long 1 to 1;person b bed 0 to 0 long 0 to 2;"
                + "person a bed 0 to 1 long 2 to 2");
        for (int number = 0; number < 12; number++) {
            due("the last one in LOT " + number, number % 2, x.lot(number, 2));
            due("the middle one in LOT " + number, number / 2 % 3, x.lot(number, 1));
            due("the first one in LOT " + number, number / 6, x.lot(number, 0));
            due("the last one in WORLD " + number, number % 2, x.world(number, 2));
            due("the middle one in WORLD " + number, number / 2 % 3, x.world(number, 1));
            due("the first one in WORLD " + number, number / 6, x.world(number, 0));
        }
        // whatever is SAID, and judged ahead
        begin(PAIR);
        x.say(0, 3);
        x.say(1, 1);
        x.judge();
        x.strike(1, 1);
        int[] worlds = {0, 3, 5, 7};
        for (int i = 0; i < 4; i++) {
            due("WORLD " + i + " behind what is SAID", worlds[i] / 2, x.world(i, 0));
            due("WORLD " + i + " behind what is SAID", worlds[i] % 2, x.world(i, 1));
            x.agrees();
            x.strike(1, 1);
        }
        begin(FULL);
        int[] last = {39, 24, 19};
        for (int person = 0; person < 3; person++) {
            due("LOT 0", 0, x.lot(0, person));
            due("LOT 19,999", last[person], x.lot(19999, person));
            due("LOT 10,000", person == 0 ? 20 : 0, x.lot(10000, person));
            due("LOT 499", person == 0 ? 0 : last[person], x.lot(499, person));
        }
    }

    private static void room() {
        term("There are no more than 20,000 LOTS, or it is refused (3) where WORLDS are asked.");
        begin(FULL);
        due("lots()", 20000, x.lots());
        fine("20,000", 20000, x.worlds());
        begin(OVER);
        due("lots()", 20088, x.lots());
        none("20,088", 3, x.worlds());
        begin(OVER_NEVER);
        due("lots()", 20088, x.lots());
        none("20,088, though none can be", 3, x.can());
        begin(MOST);
        none("4,096,000,000", 3, x.worlds());
        begin("law hours 1 beside 0 off 0" + forty("abcde"));
        due("lots()", 102400000, x.lots());
        none("102,400,000", 3, x.worlds());
        begin(FULL);
        x.strike(2, 99);
        fine("20,000, of which none can be", 0, x.worlds());
        // more than there is room for, then a text with fewer
        fine("a text with more", 4, Texts.parish(x, OVER));
        none("more", 3, x.worlds());
        fine("a text with fewer", 2, Texts.parish(x, PAIR));
        fine("fewer", 8, x.worlds());
    }

    private static void said() {
        term("SAID: a LOT that is told, SPAN by SPAN (all 0 at first).");
        begin(MOST);
        for (int person = 0; person < 6; person++) {
            due("at first, " + person, 0, x.said(person));
        }
        for (int person = 0; person < 6; person++) {
            x.say(person, 39 - person);
            for (int other = 0; other < 6; other++) {
                due("SPAN by SPAN, " + other, other <= person ? 39 - other : 0, x.said(other));
            }
        }
        // (7,4) (7,3) (7,2) (7,1) (7,0) (6,4): one awake in HOUR 7, all in HOUR 11
        due("STRIKES by it", 1, x.strikes(7));
        due("STRIKES by it", 6, x.strikes(11));
    }

    private static void wrong() {
        term("WRONG in an HOUR: 1 something was struck and doesn't AGREE; else 2 two that are apart are ASLEEP.");
        String two = "law hours 3 beside 0 off 3;person a bed 0 to 2 long 1 to 1;person b bed 0 to 2 long 1 to 1"
                + ";apart a,b";
        begin(two);
        due("asleep at once", 2, x.why());
        due("asleep at once", 0, x.judge());
        x.strike(0, 0);
        due("what is struck AGREES", 2, x.why());
        x.strike(0, 1);
        due("it is OFF, which isn't to AGREE: 1 ahead of 2", 1, x.why());
        due("it is OFF, which isn't to AGREE", 0, x.judge());
        x.say(1, 1);
        due("now it AGREES, and they aren't asleep at once", 0, x.why());
        due("now it AGREES, and they aren't asleep at once", -2, x.judge());
        x.strike(2, 0);
        due("in the last HOUR", 2, x.judge());
        due("in the last HOUR", 1, x.why());
        x.still(2);
        x.say(0, 2);
        x.say(1, 2);
        x.still(0);
        due("asleep in the last HOUR", 2, x.judge());
        due("asleep in the last HOUR", 2, x.why());
        begin("law hours 3 beside 0 off 0;person a bed 3 to 3 long 1 to 1;person b bed 3 to 3 long 1 to 1;apart a,b");
        due("asleep behind the last HOUR", -2, x.judge());
        due("asleep behind the last HOUR", 0, x.why());
    }

    private static void weight() {
        term("WEIGHT of a SPAN: 10 less how far b is from the habit (1 at least), 1 without a habit;");
        int[][] beds = {{0, 0}, {0, 1}, {1, 0}, {8, 0}, {0, 8}, {9, 0}, {0, 9}, {10, 0}, {0, 10}, {11, 0}, {23, 0},
                {0, 23},
            {23, 23}, {23, 14}, {23, 15}};
        int[] weights = {10, 9, 9, 2, 2, 1, 1, 1, 1, 1, 1, 1, 10, 1, 2};
        for (int k = 0; k < beds.length; k++) {
            begin("law hours 1 beside 0 off 0;person a bed " + beds[k][0] + " to " + beds[k][0] + " long 1 to 1 habit "
                    + beds[k][1]);
            due("b " + beds[k][0] + ", habit " + beds[k][1], weights[k], x.span(0, 0, 2));
        }
        begin("law hours 1 beside 0 off 0;person a bed 0 to 0 long 0 to 0;person b bed 4 to 4 long 0 to 0 habit 0 away;"
                + "person c bed 4 to 4 long 0 to 0 habit 23 away;person d bed 4 to 4 long 0 to 0 away");
        int[] due = {1, 10, 1, 1};
        for (int person = 0; person < 4; person++) {
            due("without a habit, or away, by b 0", due[person], x.span(person, 0, 2));
        }
        term("of a LOT: those of all, times one another.");
        StringBuilder six = new StringBuilder("law hours 1 beside 0 off 0");
        for (char name = 'a'; name < 'g'; name++) {
            six.append(";person ").append(name).append(" bed 3 to 3 long 0 to 0 habit 3");
        }
        begin(six.toString());
        due("six of 10", 1000000, x.greatest());
        due("six of 10", 1000000, x.weights());
        begin(six.toString().replace("habit 3", "habit 12"));
        due("six of 1", 1, x.greatest());
        begin("law hours 1 beside 0 off 0;person a bed 0 to 0 long 0 to 0;person b bed 0 to 0 long 0 to 0");
        due("no habits", 1, x.greatest());
        begin("law hours 1 beside 0 off 0;person a bed 0 to 0 long 0 to 0 habit 1"
                + ";person b bed 0 to 0 long 0 to 0 habit 2;"
                + "person c bed 0 to 0 long 0 to 0");
        due("9 times 8 times 1", 72, x.greatest());
    }

    private static void promise6() {
        promise(6, "How many SPANS a person has.");
        begin(ONE);
        fine("one", 1, x.spans(0));
        begin(MOST);
        fine("the most, the first person", 40, x.spans(0));
        fine("the most, the last person", 40, x.spans(5));
        begin(SPANLESS);
        fine("none", 0, x.spans(1));
        begin("law hours 1 beside 0 off 0;person a bed 0 to 7 long 0 to 4 away");
        fine("away", 1, x.spans(0));
        promise(6, "NONE: 1.");
        begin(MOST);
        numbers("spans", 5, -1, person -> x.spans(person));
        begin(ONE);
        numbers("spans", 0, -1, person -> x.spans(person));
    }

    private static void promise7() {
        promise(7, "Of a SPAN 0 b, 1 l, 2 its WEIGHT.");
        begin("law hours 24 beside 0 off 0;person a bed 16 to 23 long 8 to 12 habit 22"
                + ";person b bed 0 to 0 long 0 to 0");
        int[][] due = {{16, 8, 4}, {23, 12, 9}};
        for (int k = 0; k < 2; k++) {
            for (int what = 0; what < 3; what++) {
                fine("the first and last span, " + what, due[k][what], x.span(0, 39 * k, what));
            }
        }
        fine("the least b", 0, x.span(1, 0, 0));
        fine("the least l", 0, x.span(1, 0, 1));
        fine("the least WEIGHT", 1, x.span(1, 0, 2));
        promise(7, "NONE: 1 (person, i, what).");
        numbers("span(person)", 1, -1, person -> x.span(person, 0, 0));
        numbers("span(i)", 39, -1, i -> x.span(0, i, 0));
        numbers("span(i)", 0, -1, i -> x.span(1, i, 2));
        numbers("span(what)", 2, -1, what -> x.span(0, 39, what));
        begin(SPANLESS);
        none("one without SPANS", 1, x.span(1, 0, 0));
    }

    private static void promise8() {
        promise(8, "Whether a person is AWAKE in an HOUR by a SPAN: 1, 0.");
        begin("law hours 24 beside 0 off 0;person a bed 0 to 0 long 1 to 1;person b bed 23 to 23 long 1 to 1");
        fine("the first HOUR", 0, x.awake(0, 0, 0));
        fine("the first HOUR", 1, x.awake(1, 0, 0));
        fine("the last HOUR", 1, x.awake(0, 0, 23));
        fine("the last HOUR", 0, x.awake(1, 0, 23));
        promise(8, "NONE: 1 (person, i, HOUR).");
        numbers("awake(person)", 1, -1, person -> x.awake(person, 0, 0));
        numbers("awake(i)", 0, -1, i -> x.awake(0, i, 0));
        numbers("awake(hour)", 23, -1, hour -> x.awake(0, 0, hour));
        begin(ONE);
        numbers("awake(hour)", 2, -1, hour -> x.awake(0, 0, hour));
        begin(MOST);
        numbers("awake(i)", 39, -1, i -> x.awake(5, i, 0));
        begin(SPANLESS);
        none("one without SPANS", 1, x.awake(1, 0, 0));
    }

    private static void promise9() {
        promise(9, "How many LOTS there are (0 if a person has no SPAN).");
        begin(ONE);
        fine("one", 1, x.lots());
        begin(SPANLESS);
        fine("none", 0, x.lots());
        begin(MOST);
        fine("more than an int holds", 4096000000L, x.lots());
        begin(OVER_NEVER);
        fine("more than there is room for", 20088, x.lots());
        promise(9, "-1: 1 (no PARISH).");
        x = new StrikeAwake();
        none("lots()", 1, x.lots());
    }

    private static void promise10() {
        promise(10, "A SPAN of a person is SAID: true; false: 1.");
        begin(MOST);
        fine("the last of the last", true, x.say(5, 39));
        fine("the first again", true, x.say(5, 0));
        fine("the same again", true, x.say(5, 0));
        numbers("say(person)", 5, 0, person -> x.say(person, 1) ? 1 : 0);
        numbers("say(i)", 39, 0, i -> x.say(2, i) ? 1 : 0);
        due("of the refused none is SAID", 39, x.said(2));
        denied("a person there isn't", 1, x.say(6, 0));
        due("nor of anybody else", 1, x.said(5));
        begin(SPANLESS);
        denied("one without SPANS", 1, x.say(1, 0));
        x = new StrikeAwake();
        denied("no PARISH", 1, x.say(0, 0));
    }

    private static void promise11() {
        promise(11, "The SPAN that is SAID.");
        begin(MOST);
        fine("at first", 0, x.said(0));
        x.say(0, 39);
        fine("the last", 39, x.said(0));
        promise(11, "NONE: 1 (a person without SPANS, too).");
        numbers("said", 5, -1, person -> x.said(person));
        begin(SPANLESS);
        none("one without SPANS", 1, x.said(1));
        fine("others", 0, x.said(0));
        x = new StrikeAwake();
        none("no PARISH", 1, x.said(0));
    }

    private static void promise12() {
        promise(12, "STRIKES in an HOUR by what is SAID.");
        begin(PAIR);
        x.say(0, 2);
        x.say(1, 1);
        int[] due = {2, 1, 1, 2};
        for (int hour = 0; hour < 4; hour++) {
            fine("LOT 5, in " + hour, due[hour], x.strikes(hour));
        }
        begin(MOST);
        fine("however many LOTS", 6, x.strikes(23));
        promise(12, "NONE: 1; 5 (someone has no SPAN).");
        numbers("strikes", 23, -1, hour -> x.strikes(hour));
        begin(SPANLESS);
        none("someone has no SPAN", 5, x.strikes(0));
        none("someone has no SPAN, the last HOUR", 5, x.strikes(2));
        none("no HOUR, and someone has no SPAN", 1, x.strikes(3));
        none("no HOUR, and someone has no SPAN", 1, x.strikes(-1));
        x = new StrikeAwake();
        none("no PARISH", 1, x.strikes(0));
    }

    private static void promise13() {
        promise(13, "The first HOUR that is WRONG by what is SAID; -2.");
        begin(PAIR);
        fine("nothing struck", -2, x.judge());
        x.strike(3, 9);
        fine("the last HOUR", 3, x.judge());
        x.strike(0, 9);
        fine("the first HOUR", 0, x.judge());
        x.strike(0, 1);
        x.strike(3, 2);
        fine("all AGREES", -2, x.judge());
        begin(MOST);
        x.strike(23, 99);
        fine("however many LOTS", 23, x.judge());
        promise(13, "NONE: 1 (no PARISH); 5 (likewise).");
        begin(SPANLESS);
        none("someone has no SPAN", 5, x.judge());
        x = new StrikeAwake();
        none("no PARISH", 1, x.judge());
    }

    private static void promise14() {
        promise(14, "How it is WRONG: 1, 2; 0 without.");
        begin("law hours 2 beside 0 off 0;person a bed 0 to 1 long 1 to 1;person b bed 1 to 1 long 1 to 1;apart a,b");
        fine("without", 0, x.why());
        x.strike(0, 9);
        fine("struck", 1, x.why());
        x.still(0);
        x.say(0, 1);
        fine("apart", 2, x.why());
        x.strike(0, 9);
        fine("of the first HOUR that is WRONG", 1, x.why());
        x.strike(0, 2);
        x.strike(1, 9);
        fine("1 ahead of 2 in one HOUR", 1, x.why());
        promise(14, "NONE: likewise.");
        begin(SPANLESS);
        none("someone has no SPAN", 5, x.why());
        x = new StrikeAwake();
        none("no PARISH", 1, x.why());
    }

    private static void promise15() {
        promise(15, "Whether what is SAID is a WORLD: 1, 0.");
        begin(PAIR + ";struck 1 is 1");
        int[] due = {1, 0, 0, 1, 0, 1, 0, 1};
        for (int number = 0; number < 8; number++) {
            x.say(0, number / 2);
            x.say(1, number % 2);
            fine("LOT " + number, due[number], x.agrees());
        }
        begin(NEVER);
        fine("no WORLD", 0, x.agrees());
        begin(ONE);
        fine("one WORLD", 1, x.agrees());
        begin(OVER);
        fine("however many LOTS", 1, x.agrees());
        begin(OVER_NEVER);
        fine("however many LOTS", 0, x.agrees());
        promise(15, "NONE: likewise.");
        begin(SPANLESS);
        none("someone has no SPAN", 5, x.agrees());
        x = new StrikeAwake();
        none("no PARISH", 1, x.agrees());
    }
}
