/** The edges of what is asked of all WORLDS (Terms, III: SURE, CHANCE, LIKELIEST) and of promises 16 to 31. */
final class WorldEdges extends Edge {
    /** One awake in all HOURS, one in none, one by b, one away; 40 SPANS of b. */
    private static final String FOUR = "law hours 8 beside 9 off 0;person w bed 0 to 0 long 0 to 0;"
            + "person n bed 0 to 0 long 0 to 0 nap 0 to 24;person s bed 0 to 7 long 0 to 4;"
            + "person o bed 0 to 0 long 0 to 0 away";

    /** LOT 2 is the only WORLD: (0, 2) and (1, 1). */
    private static final String ONLY = PAIR + ";struck 0 is 1;struck 1 is 0";

    private WorldEdges() {
    }

    static void run() {
        sure();
        chance();
        likeliest();
        promise16();
        promise17();
        promise18();
        promise19();
        promise20();
        promise21();
        promise22();
        promise23();
        promise24();
        promise25();
        promise26();
        promise27();
        promise28();
        promise29();
        promise30();
        promise31();
    }

    private static void sure() {
        term("III. SURE of a person in an HOUR: 2 AWAKE in all WORLDS, 0 in none, 1 in some.");
        begin(FOUR);
        for (int hour = 0; hour < 8; hour++) {
            due("always awake", 2, x.sure(0, hour));
            due("always asleep", 0, x.sure(1, hour));
            due("by its SPANS", 1, x.sure(2, hour));
            due("away", 0, x.sure(3, hour));
        }
        begin("law hours 24 beside 9 off 0" + forty("ab") + ";struck 0 is 2");
        due("all but 4 of 40", 1, x.sure(0, 0));
        due("behind all sleep", 2, x.sure(0, 11));
        due("in one SPAN of 40", 1, x.sure(0, 10));
        x.strike(0, 0);
        due("asleep in all that are left", 0, x.sure(0, 0));
        begin(ONE);
        due("one WORLD, awake", 2, x.sure(0, 0));
        due("one WORLD, asleep", 0, x.sure(0, 1));
        begin(FULL);
        due("20,000 WORLDS, in all", 2, x.sure(0, 23));
        due("20,000 WORLDS, in some", 1, x.sure(0, 0));
    }

    private static void chance() {
        term("CHANCE: WEIGHTS of WORLDS in which it is AWAKE, by hundredths of all WORLDS', downwards.");
        begin(ONE);
        due("one WORLD, awake", 100, x.chance(0, 0));
        due("one WORLD, asleep", 0, x.chance(0, 1));
        // asleep in HOUR 10 by (7,4) alone
        begin("law hours 24 beside 0 off 0" + forty("a") + ";person b bed 0 to 0 long 0 to 4");
        due("39 of 40 is 97.5", 97, x.chance(0, 10));
        due("36 of 40", 90, x.chance(0, 0));
        due("40 of 40", 100, x.chance(0, 23));
        due("1 of 5", 20, x.chance(1, 0));
        begin("law hours 24 beside 0 off 0;person a bed 7 to 7 long 0 to 2");
        due("1 of 3 is 33.3", 33, x.chance(0, 7));
        due("2 of 3 is 66.6", 66, x.chance(0, 8));
        begin("law hours 24 beside 0 off 0;person a bed 0 to 1 long 1 to 1 habit 0"
                + ";person b bed 0 to 0 long 0 to 0 habit 9");
        due("9 of 19 is 47.3", 47, x.chance(0, 0));
        due("10 of 19 is 52.6", 52, x.chance(0, 1));
        due("1 of 1", 100, x.chance(1, 0));
        // awake in HOUR 8 by (0,8) alone, which weighs 1; all others weigh 179
        begin("law hours 24 beside 0 off 0;person a bed 0 to 7 long 8 to 12 habit 9");
        due("1 of 180 is 0.5", 0, x.chance(0, 8));
        due("though it is in one WORLD", 1, x.times(0, 8));
        due("though it is in one WORLD", 1, x.sure(0, 8));
        // as sexton without those asleep in HOUR 1: asleep in HOUR 0 by (0,1) alone, which weighs 1; all others 168
        begin("law hours 24 beside 0 off 0;person a bed 0 to 7 long 0 to 4 habit 9;sexton a;struck 1 is 1");
        due("168 of 169 is 99.4", 99, x.chance(0, 0));
        due("though it isn't in all WORLDS", 32, x.times(0, 0));
        due("though it isn't in all WORLDS", 1, x.sure(0, 0));
        recounted();
        StringBuilder heavy = new StringBuilder("law hours 24 beside 9 off 0");
        for (char name = 'a'; name < 'g'; name++) {
            heavy.append(";person ").append(name).append(" bed 3 to 3 long 0 to 4 habit 3");
        }
        begin(heavy.toString());
        due("15,625 WORLDS of a million each", 15625000000L, x.weights());
        due("more than an int holds, a fifth", 20, x.chance(0, 3));
        due("more than an int holds, four fifths", 80, x.chance(5, 6));
        due("more than an int holds, all", 100, x.chance(0, 23));
    }

    /** What is struck anew is counted anew, from nothing on. */
    private static void recounted() {
        begin(PAIR);
        for (int k = 0; k < 3; k++) {
            due("all 8", 75, x.chance(0, 2));
            due("all 8", 52, x.chance(1, 1));
            due("all 8", 76, x.weights());
            due("all 8", 10, x.greatest());
            due("all 8", 1, x.likeliest(1));
            due("all 8", 4, x.having(1, 0));
            x.strike(1, 0);
            x.strike(0, 1);
            due("one of them", 0, x.chance(0, 1));
            due("one of them", 9, x.weights());
            due("one of them", 9, x.greatest());
            due("one of them", 1, x.likeliest(0));
            due("one of them", 0, x.likeliest(1));
            due("one of them", 0, x.having(1, 1));
            x.strike(3, 9);
            due("none of them", 0, x.weights());
            due("none of them", 0, x.having(1, 0));
            x.still(3);
            x.still(1);
            x.still(0);
        }
    }

    private static void likeliest() {
        term("LIKELIEST: the WORLD of greatest WEIGHT, the first such.");
        begin("law hours 24 beside 9 off 0" + forty("ab"));
        due("all alike: the first", 0, x.likeliest(0) + x.likeliest(1));
        begin("law hours 24 beside 9 off 0;person a bed 0 to 7 long 0 to 4 habit 7"
                + ";person b bed 0 to 7 long 0 to 4 habit 3");
        due("the first of the last b", 35, x.likeliest(0));
        due("the first of b 3", 15, x.likeliest(1));
        begin("law hours 9 beside 0 off 0;person a bed 0 to 2 long 1 to 1 habit 1;struck 1 is 1");
        due("the greatest is no WORLD: the first of two alike", 0, x.likeliest(0));
        due("the greatest is no WORLD", 9, x.greatest());
        begin("law hours 9 beside 0 off 0;person a bed 0 to 2 long 1 to 1 habit 2");
        due("the last", 2, x.likeliest(0));
        begin("law hours 9 beside 0 off 0;person a bed 0 to 2 long 1 to 1;struck 0 is 1");
        due("weights of 1 alone: the first WORLD isn't the first LOT", 1, x.likeliest(0));
        due("weights of 1 alone", 1, x.greatest());
        begin(ONE);
        due("one WORLD", 0, x.likeliest(0));
        begin(FULL.replace("person c bed 0 to 3 long 0 to 4", "person c bed 0 to 3 long 0 to 4 habit 23"));
        due("weights of 1 alone: the first of 20,000", 0, x.likeliest(2));
        begin(FULL.replace("long 0 to 4;told", "long 0 to 4 habit 3;told"));
        due("the first of 1,000 alike", 15, x.likeliest(2));
    }

    private static void tooMany(String call, OfOne asked) {
        begin(OVER);
        none(call + ", 20,088 LOTS", 3, asked.of(0));
        begin(OVER_NEVER);
        none(call + ", 20,088 LOTS and no WORLD", 3, asked.of(0));
        begin(MOST);
        none(call + ", 4,096,000,000 LOTS", 3, asked.of(0));
        begin(FULL);
        asked.of(0);
        due(call + ", 20,000 LOTS, then trouble()", 0, x.trouble());
    }

    private static void without(String call, OfOne asked) {
        x = new StrikeAwake();
        none(call + ", no PARISH", 1, asked.of(0));
    }

    /** What is wrong about an argument is said ahead of what is wrong about LOTS or WORLDS. */
    private static void ahead(String call, OfOne asked) {
        for (String text : new String[] {OVER, OVER_NEVER, NEVER, SPANLESS, MOST}) {
            begin(text);
            none(call + ", " + text, 1, asked.of(0));
        }
    }

    private static void never(String call, OfOne asked) {
        begin(NEVER);
        none(call + ", no WORLD", 6, asked.of(0));
        begin(SPANLESS);
        none(call + ", no LOT", 6, asked.of(0));
        begin(FULL);
        x.strike(2, 99);
        none(call + ", 20,000 LOTS and no WORLD", 6, asked.of(0));
        x.still(2);
        asked.of(0);
        due(call + ", WORLDS again, then trouble()", 0, x.trouble());
        begin(ONE);
        asked.of(0);
        due(call + ", one WORLD, then trouble()", 0, x.trouble());
    }

    private static void promise16() {
        promise(16, "How many WORLDS there are.");
        begin(ONE);
        fine("one", 1, x.worlds());
        begin(NEVER);
        fine("none", 0, x.worlds());
        begin(SPANLESS);
        fine("none, someone has no SPAN", 0, x.worlds());
        begin(FULL);
        fine("20,000", 20000, x.worlds());
        begin(ONLY);
        fine("one of 8 by two strokes", 1, x.worlds());
        x.still(0);
        fine("by one of them", 3, x.worlds());
        x.still(1);
        fine("no stroke", 8, x.worlds());
        promise(16, "NONE: 1 (no PARISH); 3.");
        tooMany("worlds", n -> x.worlds());
        without("worlds", n -> x.worlds());
    }

    private static void promise17() {
        promise(17, "Whether there is one: 1, 0.");
        begin(ONE);
        fine("one", 1, x.can());
        begin(NEVER);
        fine("none", 0, x.can());
        begin(SPANLESS);
        fine("none, someone has no SPAN", 0, x.can());
        begin(FULL);
        fine("20,000", 1, x.can());
        promise(17, "NONE: likewise.");
        tooMany("can", n -> x.can());
        without("can", n -> x.can());
    }

    private static void promise18() {
        promise(18, "The SPAN of a person in the i-th (0: the first) WORLD.");
        begin(PAIR + ";struck 1 is 1");
        int[] lots = {0, 3, 5, 7};
        for (int i = 0; i < 4; i++) {
            fine("WORLD " + i, lots[i] / 2, x.world(i, 0));
            fine("WORLD " + i, lots[i] % 2, x.world(i, 1));
        }
        begin(ONLY);
        fine("the only one", 1, x.world(0, 0));
        fine("the only one", 0, x.world(0, 1));
        begin(FULL);
        fine("the last of 20,000", 39, x.world(19999, 0));
        fine("the last of 20,000", 19, x.world(19999, 2));
        fine("the last but one", 18, x.world(19998, 2));
        promise(18, "NONE: 1 (person; i); 3.");
        numbers("world(i)", 19999, -1, i -> x.world(i, 0));
        numbers("world(person)", 2, -1, person -> x.world(19999, person));
        begin(PAIR + ";struck 1 is 1");
        numbers("world(i)", 3, -1, i -> x.world(i, 1));
        begin(ONE);
        numbers("world(i)", 0, -1, i -> x.world(i, 0));
        begin(NEVER);
        none("no WORLD, the first", 1, x.world(0, 0));
        begin(SPANLESS);
        none("no LOT, the first", 1, x.world(0, 0));
        tooMany("world(0, 0)", n -> x.world(n, 0));
        without("world(0, 0)", n -> x.world(n, 0));
        ahead("world(-1, 0)", n -> x.world(-1, 0));
        ahead("world(0, 6)", n -> x.world(0, 6));
        ahead("world(0, -1)", n -> x.world(0, -1));
    }

    private static void promise19() {
        promise(19, "WEIGHTS of all WORLDS.");
        begin(ONE);
        fine("one, at its habit", 10, x.weights());
        begin(NEVER);
        fine("none", 0, x.weights());
        begin(SPANLESS);
        fine("none, someone has no SPAN", 0, x.weights());
        begin(FULL);
        fine("20,000 without habits", 20000, x.weights());
        begin(PAIR);
        fine("8", 76, x.weights());
        begin(ONLY);
        fine("one of 8", 9, x.weights());
        // 10 9 8 7 6 5 4 3 for each of five SPANS
        begin("law hours 1 beside 9 off 0" + forty("ab").replace("4", "4 habit 0"));
        fine("1,600", 260L * 260, x.weights());
        promise(19, "-1: 1 (no PARISH); 3.");
        tooMany("weights", n -> x.weights());
        without("weights", n -> x.weights());
    }

    private static void promise20() {
        promise(20, "In how many WORLDS a person has a SPAN.");
        begin(FULL);
        fine("the first of 40", 500, x.having(0, 0));
        fine("the last of 40", 500, x.having(0, 39));
        fine("the last of 20", 1000, x.having(2, 19));
        begin(ONE);
        fine("one WORLD", 1, x.having(0, 0));
        begin(NEVER);
        fine("no WORLD", 0, x.having(0, 0));
        begin(ONLY);
        fine("the SPAN of the only one", 1, x.having(0, 1));
        fine("another", 0, x.having(0, 0));
        promise(20, "NONE: 1; 3.");
        begin(FULL);
        numbers("having(person)", 2, -1, person -> x.having(person, 0));
        numbers("having(i)", 39, -1, i -> x.having(0, i));
        numbers("having(i)", 19, -1, i -> x.having(2, i));
        begin(SPANLESS);
        none("one without SPANS", 1, x.having(1, 0));
        fine("another, no LOT", 0, x.having(0, 0));
        tooMany("having", n -> x.having(0, 0));
        without("having", n -> x.having(0, 0));
        ahead("having(6, 0)", n -> x.having(6, 0));
        ahead("having(0, 40)", n -> x.having(0, 40));
        ahead("having(0, -1)", n -> x.having(0, -1));
    }

    private static void promise21() {
        promise(21, "In how many WORLDS a person is AWAKE in an HOUR.");
        begin(FULL);
        fine("in all", 20000, x.times(0, 23));
        fine("all but 4 of 40", 18000, x.times(0, 0));
        begin(ONE);
        fine("in the only one", 1, x.times(0, 0));
        fine("not in the only one", 0, x.times(0, 1));
        begin(NEVER);
        fine("no WORLD", 0, x.times(0, 0));
        begin(SPANLESS);
        fine("no LOT", 0, x.times(0, 0));
        fine("no LOT, of one without SPANS", 0, x.times(1, 2));
        begin(FOUR);
        fine("away", 0, x.times(3, 0));
        promise(21, "NONE: 1; 3.");
        numbers("times(person)", 3, -1, person -> x.times(person, 0));
        numbers("times(hour)", 7, -1, hour -> x.times(0, hour));
        tooMany("times", n -> x.times(0, 0));
        without("times", n -> x.times(0, 0));
        ahead("times(0, 24)", n -> x.times(0, 24));
        ahead("times(-1, 0)", n -> x.times(-1, 0));
    }

    private static void promise22() {
        promise(22, "SURE.");
        begin(ONE);
        fine("sure(0, 0)", 2, x.sure(0, 0));
        fine("sure(0, 1)", 0, x.sure(0, 1));
        fine("sure(0, 2)", 2, x.sure(0, 2));
        promise(22, "NONE: 1; 3; 6 (no WORLD).");
        begin(FOUR);
        numbers("sure(person)", 3, -1, person -> x.sure(person, 0));
        numbers("sure(hour)", 7, -1, hour -> x.sure(0, hour));
        tooMany("sure", n -> x.sure(0, 0));
        without("sure", n -> x.sure(0, 0));
        never("sure", n -> x.sure(0, 0));
        ahead("sure(0, 24)", n -> x.sure(0, 24));
        ahead("sure(6, 0)", n -> x.sure(6, 0));
    }

    private static void promise23() {
        promise(23, "Who is surely AWAKE in an HOUR (or surely not), as bits.");
        begin(FOUR);
        for (int hour = 0; hour < 8; hour += 7) {
            fine("surely", 1, x.surely(hour, true));
            fine("surely not", 2 + 8, x.surely(hour, false));
        }
        begin("law hours 1 beside 9 off 0" + forty("abcdef").replace("0 to 7 long 0 to 4", "0 to 0 long 0 to 0"));
        fine("all six", 63, x.surely(0, true));
        fine("none", 0, x.surely(0, false));
        begin(ONE);
        fine("one WORLD", 1, x.surely(0, true));
        fine("one WORLD", 0, x.surely(0, false));
        fine("one WORLD", 0, x.surely(1, true));
        fine("one WORLD", 1, x.surely(1, false));
        promise(23, "NONE: 1; 3; 6.");
        begin(FOUR);
        numbers("surely(hour)", 7, -1, hour -> x.surely(hour, true));
        numbers("surely(hour), not", 7, -1, hour -> x.surely(hour, false));
        tooMany("surely", n -> x.surely(0, true));
        without("surely", n -> x.surely(0, false));
        never("surely", n -> x.surely(0, false));
        ahead("surely(24)", n -> x.surely(24, true));
        ahead("surely(-1)", n -> x.surely(-1, false));
    }

    private static void promise24() {
        promise(24, "CHANCE.");
        begin(ONE);
        fine("one WORLD", 100, x.chance(0, 2));
        fine("one WORLD", 0, x.chance(0, 1));
        begin(FOUR);
        fine("always awake", 100, x.chance(0, 7));
        fine("always asleep", 0, x.chance(1, 7));
        fine("away", 0, x.chance(3, 7));
        promise(24, "NONE: 1; 3; 6.");
        numbers("chance(person)", 3, -1, person -> x.chance(person, 0));
        numbers("chance(hour)", 7, -1, hour -> x.chance(2, hour));
        tooMany("chance", n -> x.chance(0, 0));
        without("chance", n -> x.chance(0, 0));
        never("chance", n -> x.chance(0, 0));
        ahead("chance(0, 24)", n -> x.chance(0, 24));
        ahead("chance(6, 0)", n -> x.chance(6, 0));
    }

    private static void promise25() {
        promise(25, "The SPAN of a person in LIKELIEST.");
        begin(PAIR);
        fine("the first of four alike", 0, x.likeliest(0));
        fine("at its habit", 1, x.likeliest(1));
        begin(ONLY);
        fine("one WORLD", 1, x.likeliest(0));
        fine("one WORLD", 0, x.likeliest(1));
        begin(FOUR);
        fine("away", 0, x.likeliest(3));
        promise(25, "NONE: 1; 3; 6.");
        numbers("likeliest", 3, -1, person -> x.likeliest(person));
        tooMany("likeliest", n -> x.likeliest(0));
        without("likeliest", n -> x.likeliest(0));
        never("likeliest", n -> x.likeliest(0));
        ahead("likeliest(6)", n -> x.likeliest(6));
        ahead("likeliest(-1)", n -> x.likeliest(-1));
    }

    private static void promise26() {
        promise(26, "The WEIGHT of LIKELIEST.");
        begin(PAIR);
        fine("of eight", 10, x.greatest());
        begin(ONLY);
        fine("one WORLD", 9, x.greatest());
        begin(FULL);
        fine("without habits", 1, x.greatest());
        promise(26, "-1: 1 (no PARISH); 3; 6.");
        tooMany("greatest", n -> x.greatest());
        without("greatest", n -> x.greatest());
        never("greatest", n -> x.greatest());
    }

    private static void promise27() {
        promise(27, "Whether two people are AWAKE at one HOUR in some WORLD, each HOUR a bit.");
        begin(FOUR);
        fine("always awake, and by its SPANS", 255, x.together(0, 2));
        fine("the other way round", 255, x.together(2, 0));
        fine("with one always asleep", 0, x.together(0, 1));
        fine("with one away", 0, x.together(3, 0));
        begin("law hours 24 beside 0 off 0;person a bed 0 to 0 long 12 to 12 nap 12 to 23"
                + ";person b bed 0 to 0 long 0 to 0");
        fine("the last HOUR alone", 1 << 23, x.together(0, 1));
        begin("law hours 24 beside 0 off 0;person a bed 1 to 1 long 12 to 12 nap 13 to 24"
                + ";person b bed 0 to 0 long 0 to 0");
        fine("the first HOUR alone", 1, x.together(0, 1));
        begin("law hours 2 beside 0 off 0;person a bed 0 to 1 long 1 to 1;person b bed 0 to 1 long 1 to 1"
                + ";struck 0 is 1");
        fine("each awake, but never at one HOUR in one WORLD", 0, x.together(0, 1));
        begin(NEVER + ";person b bed 0 to 0 long 0 to 0");
        fine("no WORLD", 0, x.together(0, 1));
        promise(27, "NONE: 1 (one twice, too); 3.");
        begin(FOUR);
        numbers("together(person)", 2, -1, person -> x.together(person, 3));
        none("together(4, 0)", 1, x.together(4, 0));
        none("together(0, 4)", 1, x.together(0, 4));
        none("together(0, -1)", 1, x.together(0, -1));
        none("together(0, MIN_VALUE)", 1, x.together(0, Integer.MIN_VALUE));
        for (int person = 0; person < 4; person++) {
            none("one twice", 1, x.together(person, person));
        }
        none("one there isn't twice", 1, x.together(4, 4));
        begin(ONE);
        none("the only one, twice", 1, x.together(0, 0));
        none("the only one with none", 1, x.together(0, 1));
        tooMany("together", n -> x.together(0, 1));
        without("together", n -> x.together(0, 1));
        ahead("together(0, 0)", n -> x.together(0, 0));
        ahead("together(0, 6)", n -> x.together(0, 6));
        ahead("together(6, 0)", n -> x.together(6, 0));
    }

    private static void promise28() {
        promise(28, "SPANS that a person has in some WORLD, as bits.");
        begin(FULL);
        fine("all forty: more than an int holds", (1L << 40) - 1, x.possible(0));
        begin("law hours 24 beside 0 off 0" + forty("a") + ";struck 10 is 0");
        fine("the last of forty alone", 1L << 39, x.possible(0));
        begin("law hours 24 beside 0 off 0" + forty("a") + ";struck 3 is 0;struck 2 is 1;struck 7 is 1");
        fine("(3, 1) to (3, 4)", 15L << 16, x.possible(0));
        begin(ONE);
        fine("one WORLD", 1, x.possible(0));
        begin(NEVER);
        fine("no WORLD", 0, x.possible(0));
        begin(SPANLESS);
        fine("no LOT", 0, x.possible(0));
        fine("no SPAN", 0, x.possible(1));
        promise(28, "-1: 1; 3.");
        begin(FOUR);
        numbers("possible", 3, -1, person -> x.possible(person));
        tooMany("possible", n -> x.possible(0));
        without("possible", n -> x.possible(0));
        ahead("possible(6)", n -> x.possible(6));
        ahead("possible(-1)", n -> x.possible(-1));
    }

    private static void promise29() {
        promise(29, "Others each of whom is AWAKE in an HOUR in some WORLD in which a person is ASLEEP then, as bits.");
        begin(FOUR);
        fine("always awake: never asleep", 0, x.hiding(0, 0));
        fine("always asleep: all who are awake in some", 1 + 4, x.hiding(1, 7));
        fine("by its SPANS", 1, x.hiding(2, 0));
        fine("away: not asleep", 0, x.hiding(3, 0));
        begin("law hours 1 beside 0 off 0;person a bed 0 to 0 long 1 to 1"
                + forty("bcdef").replace("0 to 7 long 0 to 4", "0 to 0 long 0 to 0"));
        fine("five others", 62, x.hiding(0, 0));
        begin("law hours 2 beside 0 off 0;person a bed 0 to 1 long 1 to 1;person b bed 0 to 1 long 1 to 1"
                + ";struck 0 is 0");
        fine("not in one WORLD: both asleep then", 0, x.hiding(0, 0));
        fine("nobody is asleep then", 0, x.hiding(0, 1));
        begin(NEVER);
        fine("no WORLD", 0, x.hiding(0, 0));
        begin(SPANLESS);
        fine("no LOT", 0, x.hiding(1, 0));
        promise(29, "NONE: 1; 3.");
        begin(FOUR);
        numbers("hiding(person)", 3, -1, person -> x.hiding(person, 0));
        numbers("hiding(hour)", 7, -1, hour -> x.hiding(0, hour));
        tooMany("hiding", n -> x.hiding(0, 0));
        without("hiding", n -> x.hiding(0, 0));
        ahead("hiding(0, 24)", n -> x.hiding(0, 24));
        ahead("hiding(6, 0)", n -> x.hiding(6, 0));
    }

    private static void promise30() {
        promise(30, "When a person went to bed (b) by all WORLDS, the first (or the latest).");
        begin("law hours 24 beside 0 off 0;person a bed 16 to 23 long 0 to 4;person b bed 0 to 7 long 0 to 4;"
                + "person c bed 23 to 23 long 0 to 0");
        fine("the first", 16, x.bed(0, false));
        fine("the latest", 23, x.bed(0, true));
        fine("the first, 0", 0, x.bed(1, false));
        fine("the latest", 7, x.bed(1, true));
        fine("one b", 23, x.bed(2, false));
        fine("one b", 23, x.bed(2, true));
        x.strike(23, 2);
        fine("those asleep in 23 alone: (20, 4) is the first", 20, x.bed(0, false));
        fine("those asleep in 23 alone", 23, x.bed(0, true));
        begin(ONLY);
        fine("one WORLD", 0, x.bed(0, false));
        fine("one WORLD", 0, x.bed(0, true));
        begin(FOUR);
        fine("away", 0, x.bed(3, true));
        promise(30, "NONE: 1; 3; 6.");
        numbers("bed", 3, -1, person -> x.bed(person, true));
        tooMany("bed", n -> x.bed(0, true));
        without("bed", n -> x.bed(0, false));
        never("bed", n -> x.bed(0, false));
        ahead("bed(6)", n -> x.bed(6, true));
        ahead("bed(-1)", n -> x.bed(-1, false));
    }

    private static void promise31() {
        promise(31, "How long it slept (l) by all WORLDS, the least (or the greatest).");
        begin("law hours 24 beside 0 off 0;person a bed 16 to 23 long 8 to 12;person b bed 0 to 7 long 0 to 4;"
                + "person c bed 23 to 23 long 12 to 12 nap 0 to 9");
        fine("the least", 8, x.sleeps(0, false));
        fine("the greatest", 12, x.sleeps(0, true));
        fine("the least, 0", 0, x.sleeps(1, false));
        fine("the greatest", 4, x.sleeps(1, true));
        fine("one l, told beyond HOUR 23, no nap with it", 12, x.sleeps(2, true));
        begin(ONLY);
        fine("one WORLD", 2, x.sleeps(0, false));
        fine("one WORLD", 2, x.sleeps(0, true));
        begin(FOUR);
        fine("away", 0, x.sleeps(3, true));
        promise(31, "NONE: likewise.");
        numbers("sleeps", 3, -1, person -> x.sleeps(person, true));
        tooMany("sleeps", n -> x.sleeps(0, true));
        without("sleeps", n -> x.sleeps(0, false));
        never("sleeps", n -> x.sleeps(0, false));
        ahead("sleeps(6)", n -> x.sleeps(6, true));
        ahead("sleeps(-1)", n -> x.sleeps(-1, false));
    }
}
