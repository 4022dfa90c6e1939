import java.util.NoSuchElementException;

/** Each promise of the document by hand-made parishes: ordinary inputs, its edges, wrong inputs. */
public final class PromiseTest {
    /**
     * LOTS (a, b) and what they strike in HOURS 0 to 3:
     * 0 (0,0) 1 1 2 2; 1 (0,1) 1 2 1 2; 2 (1,0) 1 0 2 2; 3 (1,1) 1 1 1 2;
     * 4 (2,0) 2 0 2 2; 5 (2,1) 2 1 1 2; 6 (3,0) 2 0 1 2; 7 (3,1) 2 1 0 2.
     */
    private static final String PAIR = "law hours 4 beside 0 off 0;person a bed 0 to 1 long 1 to 2;"
            + "person b bed 1 to 2 long 1 to 1 habit 2";
    /** 40, 25 and 20 SPANS: 20,000 LOTS, just as many as there may be. */
    private static final String FULL = "law hours 24 beside 0 off 0;person a bed 0 to 7 long 0 to 4;"
            + "person b bed 0 to 4 long 0 to 4;person c bed 0 to 3 long 0 to 4;told a 0 to 1";
    /** 40, 25 and 21 SPANS: 21,000 LOTS. */
    private static final String OVER = "law hours 24 beside 0 off 0;person a bed 0 to 7 long 0 to 4;"
            + "person b bed 0 to 4 long 0 to 4;person c bed 0 to 6 long 0 to 2;told a 0 to 1;struck 0 is 3";
    /** The sexton sleeps in HOUR 1, which is struck: it has no SPAN. */
    private static final String SPANLESS = "law hours 3 beside 0 off 0;person a bed 0 to 1 long 1 to 1;"
            + "person s bed 1 to 1 long 1 to 1;sexton s;struck 1 is 1;told a 0 to 1";

    private static StrikeAwake x;

    private static void begin(String text) {
        x = Texts.with(text);
    }

    private static void refused(String call, long got, long want, int trouble) {
        Due.is(call, want, got);
        Due.is(call + " then trouble()", trouble, x.trouble());
    }

    private static void none(String call, long got, int trouble) {
        refused(call, got, -1, trouble);
    }

    private static void refused(String call, boolean got, int trouble) {
        refused(call, got ? 1 : 0, 0, trouble);
    }

    private static void fine(String call, long want, long got) {
        Due.is(call, want, got);
        Due.is(call + " then trouble()", 0, x.trouble());
    }

    private static void fine(String call, boolean want, boolean got) {
        fine(call, want ? 1 : 0, got ? 1 : 0);
    }

    private static void promise1to5() {
        x = new StrikeAwake();
        Due.is("1 NONE", -1, StrikeAwake.NONE);
        Due.is("1 trouble", 0, x.trouble());
        Due.is("1 fault", 0, x.fault());
        Due.is("1 where", -1, x.where());
        none("1 worlds", x.worlds(), 1);
        for (int k = 1; k <= 45; k++) {
            Due.is("2 feed " + k, k * 20, x.feed(0x20202020, -1, 0, Integer.MIN_VALUE, Integer.MAX_VALUE));
        }
        Due.is("2 feed over", -1, x.feed(1, 2, 3, 4, 5));
        Due.is("2 none came", 900, x.size(9));
        Due.is("2 no trouble of its own", 1, x.trouble());
        none("3 parish below", x.parish(-1), 2);
        none("3 parish above", x.parish(901), 2);
        Due.is("3 the tape stays", 900, x.size(9));
        Due.is("4 refused by 2", 0, x.fault());
        none("3 parish of bytes", x.parish(900), 4);
        Due.is("3 the tape is empty", 0, x.size(9));
        Due.is("4 form", 1, x.fault());
        Due.is("5 behind four blanks", 4, x.where());
        none("3 parish again", x.parish(1), 2);
        Due.is("4 the fault stays", 1, x.fault());
        Due.is("5 no place", -1, x.where());
        Texts.feed(x, PAIR);
        fine("3 parish", 2, x.parish(PAIR.length()));
        Due.is("3 the tape is empty behind it, too", 0, x.size(9));
        Due.is("4 without a fault", 0, x.fault());
        x.say(0, 3);
        x.strike(1, 1);
        x.seek();
        none("3 a fault", Texts.parish(x, "law hours 4 beside 10"), 4);
        Due.is("5 its place", 19, x.where());
        Due.is("5 its place, still", 19, x.where() + 0 * x.size(0) + 0 * x.feed(0, 0, 0, 0, 0));
        Due.is("3 the parish stays", 3, x.said(0));
        Due.is("5 the latest isn't by 4", -1, x.where());
        Due.is("4 but the fault is told", 4, x.fault());
        Due.is("3 the parish stays, its strokes", 1, x.struck(1));
        Due.is("3 the parish stays, its cursor", 1, x.size(8));
        x = new StrikeAwake();
        Texts.feed(x, PAIR + "     and more");
        fine("3 parish, the first bytes", 2, x.parish(PAIR.length()));
        x.say(0, 3);
        x.seek();
        fine("3 parish anew", 2, Texts.parish(x, PAIR));
        Due.is("3 said anew", 0, x.said(0));
        Due.is("3 cursor anew", 0, x.size(8));
        parishAfterParish();
    }

    private static void parishAfterParish() {
        begin(PAIR + ";struck 0 is 1;born 0;apart a,b;told a 1 to 2;offer a 1 to 2;sexton a");
        x.worlds();
        fine("3 another parish", 2, Texts.parish(x, PAIR + ";struck 1 is 1"));
        fine("16 its worlds", 4, x.worlds());
        fine("3 the first again, with less", 2, Texts.parish(x, PAIR));
        int[] due = {2, 0, 0, 0, 0, 0, 4, -2, 0, 0};
        for (int what = 0; what < 10; what++) {
            Due.is("3 nothing is left of earlier ones, size " + what, due[what], x.size(what));
        }
        fine("16 its worlds", 8, x.worlds());
        fine("43 nothing struck", -2, x.struck(0));
        fine("12 nobody born", 1, x.strikes(0));
        none("3 a fault behind much", Texts.parish(x, PAIR + ";struck 0 is 1;born 0;apart a,b;born"), 4);
        fine("3 and one without", 2, Texts.parish(x, PAIR + ";struck 2 is 1"));
        Due.is("3 one hour struck", 1, x.size(3));
        Due.is("3 nobody born", 0, x.size(2));
        Due.is("3 nobody apart", 0, x.size(1));
        fine("13 judge", 2, x.judge());
        fine("14 why", 1, x.why());
    }

    private static void promise6to9() {
        begin(PAIR + ";person c bed 4 to 5 long 2 to 3 habit 4 nap 1 to 2 away;"
                + "person d bed 2 to 2 long 12 to 12 nap 0 to 1");
        fine("6 spans(0)", 4, x.spans(0));
        fine("6 spans(1)", 2, x.spans(1));
        fine("6 spans of one away", 1, x.spans(2));
        none("6 spans(-1)", x.spans(-1), 1);
        none("6 spans(4)", x.spans(4), 1);
        int[][] due = {{0, 1}, {0, 2}, {1, 1}, {1, 2}};
        for (int i = 0; i < 4; i++) {
            fine("7 b", due[i][0], x.span(0, i, 0));
            fine("7 l", due[i][1], x.span(0, i, 1));
            fine("7 weight without a habit", 1, x.span(0, i, 2));
        }
        fine("7 weight", 9, x.span(1, 0, 2));
        fine("7 weight at the habit", 10, x.span(1, 1, 2));
        fine("7 away b", 0, x.span(2, 0, 0));
        fine("7 away l", 0, x.span(2, 0, 1));
        fine("7 away weight, b being 0", 6, x.span(2, 0, 2));
        none("7 no person", x.span(5, 0, 0), 1);
        none("7 no span", x.span(0, 4, 0), 1);
        none("7 no span below", x.span(0, -1, 0), 1);
        none("7 what 3", x.span(0, 0, 3), 1);
        none("7 what -1", x.span(0, 0, -1), 1);
        fine("8 asleep", 0, x.awake(0, 3, 1));
        fine("8 asleep to the end", 0, x.awake(0, 3, 2));
        fine("8 awake", 1, x.awake(0, 3, 0));
        fine("8 awake behind", 1, x.awake(0, 3, 3));
        fine("8 away isn't awake", 0, x.awake(2, 0, 0));
        fine("8 in the nap", 0, x.awake(3, 0, 0));
        fine("8 behind the nap", 1, x.awake(3, 0, 1));
        fine("8 long beyond the hours", 0, x.awake(3, 0, 3));
        none("8 no person", x.awake(-1, 0, 0), 1);
        none("8 no span", x.awake(1, 2, 0), 1);
        none("8 no hour", x.awake(1, 0, 4), 1);
        none("8 no hour below", x.awake(1, 0, -1), 1);
        fine("9 lots", 8, x.lots());
        begin(SPANLESS);
        fine("9 lots, one without spans", 0, x.lots());
        fine("6 spans of a sexton who sleeps", 0, x.spans(1));
        begin("law hours 24 beside 0 off 0;person a bed 0 to 7 long 0 to 4;person b bed 0 to 7 long 0 to 4;"
                + "person c bed 0 to 7 long 0 to 4;person d bed 0 to 7 long 0 to 4;person e bed 0 to 7 long 0 to 4;"
                + "person f bed 0 to 7 long 0 to 4");
        fine("9 lots, all that can be", 4096000000L, x.lots());
        fine("7 the last span", 7, x.span(5, 39, 0));
        none("7 behind the last span", x.span(5, 40, 0), 1);
        begin("law hours 3 beside 0 off 0;person s bed 0 to 2 long 0 to 1 habit 23;sexton s;struck 1 is 1;"
                + "struck 5 is 2");
        fine("6 the sexton is awake in what is struck", 5, x.spans(0));
        fine("7 numbers close up", 2, x.span(0, 3, 0));
        fine("7 weight, one at least", 1, x.span(0, 3, 2));
        fine("41 strike", 2, x.strike(2, 1));
        fine("6 its spans stay", 5, x.spans(0));
        begin("law hours 3 beside 0 off 0;person s bed 0 to 0 long 2 to 2 away;sexton s;struck 1 is 0");
        fine("6 a sexton away has its one", 1, x.spans(0));
        begin("law hours 2 beside 0 off 0;person a bed 1 to 3 long 1 to 1");
        fine("6 bed behind the hours", 3, x.spans(0));
        fine("8 awake in all of them", 1, x.awake(0, 2, 1));
    }

    private static void promise10to15() {
        begin(PAIR + ";born 2;apart a,b;struck 0 is 1;struck 5 is 9");
        fine("10 say", true, x.say(0, 3));
        fine("11 said", 3, x.said(0));
        fine("11 said at first", 0, x.said(1));
        refused("10 say no span", x.say(0, 4), 1);
        refused("10 say below", x.say(0, -1), 1);
        refused("10 say of none", x.say(2, 0), 1);
        Due.is("10 refused, it stays", 3, x.said(0));
        none("11 said of none", x.said(2), 1);
        fine("12 strikes, both awake", 2, x.strikes(0));
        fine("12 strikes, none", 0, x.strikes(1));
        fine("12 strikes, born in it", 2, x.strikes(2));
        fine("12 strikes, born ahead", 3, x.strikes(3));
        none("12 no hour", x.strikes(4), 1);
        none("12 no hour below", x.strikes(-1), 1);
        fine("13 judge, strokes", 0, x.judge());
        fine("14 why, strokes", 1, x.why());
        fine("15 agrees", 0, x.agrees());
        x.strike(0, 2);
        fine("13 judge, apart", 1, x.judge());
        fine("14 why, apart", 2, x.why());
        fine("15 agrees, apart", 0, x.agrees());
        x.strike(1, 1);
        fine("14 strokes go ahead of apart", 1, x.why());
        x.still(1);
        x.say(1, 1);
        fine("13 judge, apart in 2", 2, x.judge());
        x.say(0, 2);
        fine("13 judge, nothing", -2, x.judge());
        fine("14 why, nothing", 0, x.why());
        fine("15 agrees, a world", 1, x.agrees());
        begin(PAIR + ";born 0;born 0;born 3");
        fine("12 strikes, two born in it", 3, x.strikes(0));
        fine("12 strikes, all born", 5, x.strikes(3));
        begin(PAIR + ";person c bed 0 to 0 long 4 to 4;apart a,c;apart c,b");
        fine("13 judge, the first of two pairs", 0, x.judge());
        x.say(0, 2);
        x.say(1, 1);
        fine("13 judge, the first of two pairs", 1, x.judge());
        begin(PAIR + ";person c bed 3 to 3 long 1 to 1;person d bed 0 to 0 long 0 to 0;apart a,c;apart d,b");
        x.say(0, 2);
        fine("13 judge, two who aren't apart sleep", -2, x.judge());
        late();
        begin(SPANLESS);
        none("11 said, one without spans", x.said(1), 1);
        refused("10 say, one without spans", x.say(1, 0), 1);
        none("12 strikes", x.strikes(0), 5);
        none("12 strikes, no hour first", x.strikes(3), 1);
        none("13 judge", x.judge(), 5);
        none("14 why", x.why(), 5);
        none("15 agrees", x.agrees(), 5);
        begin(OVER);
        fine("12 strikes of many lots", 3, x.strikes(0));
        fine("13 judge of many lots", -2, x.judge());
        fine("15 agrees of many lots", 1, x.agrees());
        fine("9 lots", 21000, x.lots());
        beside();
    }

    private static void late() {
        begin("law hours 24 beside 0 off 0;person a bed 11 to 12 long 1 to 1;person b bed 23 to 23 long 9 to 9;"
                + "person c bed 0 to 0 long 12 to 12;person d bed 12 to 12 long 12 to 12;"
                + "person e bed 5 to 5 long 5 to 5;person f bed 0 to 0 long 0 to 0;born 0;born 12;born 23");
        int[] due = {6, 6, 6, 6, 6, 5, 5, 5, 5, 5, 6, 5, 7, 7, 7, 7, 7, 7, 7, 7, 7, 7, 7, 7};
        for (int h = 0; h < 24; h++) {
            fine("12 strikes of six in " + h, due[h], x.strikes(h));
        }
        x.say(0, 1);
        fine("12 strikes of six, said", 6, x.strikes(11));
        fine("12 strikes of six, said", 6, x.strikes(12));
        x.strike(23, 7);
        x.strike(11, 5);
        fine("13 judge in 11", 11, x.judge());
        fine("16 one world", 1, x.worlds());
        x.strike(23, 6);
        fine("36 late", 1 << 23, x.proof());
    }

    private static void beside() {
        begin("law hours 5 beside 2 off 1;person a bed 0 to 0 long 0 to 0");
        int[] wrong = {1, 0, 0, 0, 1};
        int[] world = {1, 1, 1, 1, 1, 0};
        for (int many = 0; many <= 5; many++) {
            x.strike(2, many);
            fine("13 judge beside", many == 0 || many > 3 ? 2 : -2, x.judge());
            fine("14 why beside", many < 5 ? wrong[many] : 1, x.why());
            fine("15 agrees with one off", world[many], x.agrees());
        }
        x.strike(2, 0);
        x.strike(4, 4);
        fine("15 two off are too many", 0, x.agrees());
        x.strike(4, 3);
        fine("15 one off is not", 1, x.agrees());
    }

    private static void promise16to21() {
        begin(PAIR);
        fine("16 worlds, nothing struck", 8, x.worlds());
        fine("19 weights, nothing struck", 76, x.weights());
        x.strike(1, 1);
        fine("16 worlds", 4, x.worlds());
        fine("17 can", 1, x.can());
        int[][] due = {{0, 0}, {1, 1}, {2, 1}, {3, 1}};
        for (int i = 0; i < 4; i++) {
            fine("18 world", due[i][0], x.world(i, 0));
            fine("18 world", due[i][1], x.world(i, 1));
            fine("20 having", 1, x.having(0, i));
        }
        none("18 world behind", x.world(4, 0), 1);
        none("18 world below", x.world(-1, 0), 1);
        none("18 world of none", x.world(0, 2), 1);
        fine("19 weights", 39, x.weights());
        fine("20 having", 1, x.having(1, 0));
        fine("20 having", 3, x.having(1, 1));
        none("20 no span", x.having(1, 2), 1);
        none("20 no person", x.having(2, 0), 1);
        int[] times = {2, 1, 3, 4};
        for (int h = 0; h < 4; h++) {
            fine("21 times", times[h], x.times(0, h));
        }
        none("21 no hour", x.times(0, 4), 1);
        none("21 no person", x.times(-1, 0), 1);
        x.strike(3, 9);
        fine("16 no world", 0, x.worlds());
        fine("17 can't", 0, x.can());
        none("18 no world", x.world(0, 0), 1);
        fine("19 no weights", 0, x.weights());
        fine("20 none has", 0, x.having(0, 0));
        fine("21 no times", 0, x.times(0, 0));
        begin(SPANLESS);
        fine("16 one without spans", 0, x.worlds());
        fine("17 one without spans", 0, x.can());
        begin(FULL);
        fine("16 as many lots as there may be", 20000, x.worlds());
        fine("18 the last world", 39, x.world(19999, 0));
        fine("21 times", 20000, x.times(0, 23));
    }

    private static void promise22to26() {
        begin(PAIR + ";person c bed 0 to 0 long 0 to 0 away;person d bed 3 to 3 long 1 to 1");
        x.strike(1, 2);
        fine("22 some", 1, x.sure(0, 1));
        fine("22 all", 2, x.sure(1, 0));
        fine("22 none", 0, x.sure(3, 3));
        fine("22 away", 0, x.sure(2, 0));
        none("22 no hour", x.sure(0, 4), 1);
        none("22 no person", x.sure(4, 0), 1);
        fine("23 surely awake", 2 + 8, x.surely(0, true));
        fine("23 surely not", 4, x.surely(0, false));
        fine("23 surely awake in 3", 1 + 2, x.surely(3, true));
        fine("23 surely not in 3", 4 + 8, x.surely(3, false));
        none("23 no hour", x.surely(-1, true), 1);
        fine("24 20 of 39", 51, x.chance(0, 0));
        fine("24 9 of 39", 23, x.chance(0, 1));
        fine("24 30 of 39", 76, x.chance(1, 1));
        fine("24 all", 100, x.chance(0, 3));
        fine("24 none", 0, x.chance(2, 3));
        none("24 no hour", x.chance(0, 9), 1);
        none("24 no person", x.chance(-1, 0), 1);
        fine("25 the first of the greatest", 1, x.likeliest(0));
        fine("25 the first of the greatest", 1, x.likeliest(1));
        none("25 no person", x.likeliest(4), 1);
        fine("26 greatest", 10, x.greatest());
        x.strike(3, 9);
        none("22 no world", x.sure(0, 0), 6);
        none("22 no hour first", x.sure(0, 4), 1);
        none("23 no world", x.surely(0, true), 6);
        none("24 no world", x.chance(0, 0), 6);
        none("25 no world", x.likeliest(0), 6);
        none("26 no world", x.greatest(), 6);
        begin("law hours 3 beside 0 off 0;person a bed 0 to 2 long 1 to 1 habit 1;"
                + "person b bed 0 to 2 long 1 to 1 habit 2");
        fine("26 times one another", 100, x.greatest());
        fine("25 a", 1, x.likeliest(0));
        fine("25 b", 2, x.likeliest(1));
        fine("19 weights", 28 * 27, x.weights());
    }

    private static void promise27to31() {
        begin(PAIR);
        x.strike(1, 1);
        fine("27 together", 13, x.together(0, 1));
        fine("27 together, the other way round", 13, x.together(1, 0));
        none("27 one twice", x.together(1, 1), 1);
        none("27 no person", x.together(0, 2), 1);
        none("27 no person", x.together(-1, 0), 1);
        fine("28 possible", 15, x.possible(0));
        fine("28 possible", 3, x.possible(1));
        none("28 no person", x.possible(2), 1);
        fine("29 hiding", 2, x.hiding(0, 1));
        fine("29 hiding", 1, x.hiding(1, 1));
        fine("29 hiding", 1, x.hiding(1, 2));
        fine("29 never asleep then", 0, x.hiding(0, 3));
        none("29 no person", x.hiding(2, 0), 1);
        none("29 no hour", x.hiding(0, 4), 1);
        fine("30 bed, the first", 0, x.bed(0, false));
        fine("30 bed, the latest", 1, x.bed(0, true));
        none("30 no person", x.bed(2, true), 1);
        fine("31 sleeps, the least", 1, x.sleeps(0, false));
        fine("31 sleeps, the greatest", 2, x.sleeps(0, true));
        none("31 no person", x.sleeps(-1, true), 1);
        x.strike(2, 0);
        fine("28 possible, one world", 8, x.possible(0));
        fine("30 bed, one world", 1, x.bed(0, false));
        fine("30 bed, one world", 2, x.bed(1, false));
        fine("31 sleeps, one world", 2, x.sleeps(0, false));
        x.strike(3, 9);
        fine("27 no world", 0, x.together(0, 1));
        fine("28 no world", 0, x.possible(0));
        fine("29 no world", 0, x.hiding(0, 1));
        none("30 no world", x.bed(0, false), 6);
        none("31 no world", x.sleeps(0, true), 6);
        begin("law hours 2 beside 0 off 0;person a bed 0 to 7 long 0 to 4;person b bed 0 to 0 long 0 to 0 away");
        fine("28 possible, all forty", (1L << 40) - 1, x.possible(0));
        fine("29 one away isn't asleep", 0, x.hiding(1, 0));
        fine("29 one away isn't awake", 0, x.hiding(0, 0));
        begin("law hours 9 beside 0 off 0;person a bed 3 to 3 long 5 to 5;person b bed 1 to 8 long 2 to 6");
        fine("30 bed, one span", 3, x.bed(0, true));
        fine("31 sleeps, one span", 5, x.sleeps(0, false));
        fine("30 bed, many spans", 1, x.bed(1, false));
        fine("30 bed, many spans", 8, x.bed(1, true));
        fine("31 sleeps, many spans", 2, x.sleeps(1, false));
        fine("31 sleeps, many spans", 6, x.sleeps(1, true));
    }

    private static void promise32to33() {
        begin(PAIR);
        fine("32 all differ", 3, x.ask());
        x.strike(1, 1);
        fine("32 the first tells", 1, x.ask());
        fine("33 in 1 either, the least bits", 1, x.askFor(1));
        fine("33 in 3 nobody", 0, x.askFor(3));
        none("33 no hour", x.askFor(4), 1);
        x.strike(2, 0);
        fine("32 one world, nobody", 0, x.ask());
        x.strike(3, 9);
        none("32 no world", x.ask(), 6);
        none("33 no world", x.askFor(0), 6);
        none("33 no hour first", x.askFor(-1), 1);
        begin("law hours 4 beside 0 off 0;person a bed 0 to 0 long 1 to 1;person b bed 1 to 2 long 1 to 1;"
                + "person c bed 1 to 2 long 1 to 1");
        fine("32 two of three", 6, x.ask());
        fine("33 two of three", 6, x.askFor(1));
        x.strike(1, 2);
        fine("32 one tells of the other", 2, x.ask());
        begin("law hours 24 beside 0 off 0;person a bed 0 to 7 long 0 to 4;person b bed 0 to 1 long 0 to 4");
        fine("32 400 worlds", 3, x.ask());
        fine("33 400 worlds, in 0", 3, x.askFor(0));
        fine("33 400 worlds, in 10", 1, x.askFor(10));
        begin("law hours 24 beside 0 off 0;person a bed 0 to 6 long 0 to 2;person b bed 0 to 3 long 0 to 4");
        fine("16 420 worlds", 420, x.worlds());
        none("32 too many worlds", x.ask(), 3);
        none("33 too many worlds", x.askFor(0), 3);
        // b and c have 32 SPANS each: the numbers of a's LOTS differ by 1,024
        begin("law hours 24 beside 0 off 0;person a bed 20 to 23 long 1 to 1;person b bed 0 to 7 long 0 to 3;"
                + "person c bed 0 to 7 long 0 to 3;struck 0 is 1");
        fine("16 four times three times three", 36, x.worlds());
        fine("32 all three", 7, x.ask());
        for (int h = 20; h < 24; h++) {
            fine("33 the first tells of " + h, 1, x.askFor(h));
        }
        fine("33 the others tell of 1", 6, x.askFor(1));
    }

    private static void promise34to36() {
        begin(PAIR + ";told a 1 to 3;told a 0 to 3;told b 2 to 3;told a 5 to 9;person c bed 0 to 0 long 0 to 0 away");
        fine("34 no lie", 0, x.lie(0));
        fine("35 no lie", -2, x.bars(0));
        fine("34 no span does", 1, x.lie(1));
        fine("35 nothing struck does", -1000, x.bars(1));
        fine("34 of no hour", 0, x.lie(3));
        none("34 no such", x.lie(4), 1);
        none("34 no such", x.lie(-1), 1);
        none("35 no such", x.bars(4), 1);
        x.strike(0, 2);
        x.strike(2, 1);
        fine("34 still no lie", 0, x.lie(0));
        fine("34 b in 2", 0, x.lie(2));
        x.strike(1, 0);
        fine("34 by three hours", 1, x.lie(2));
        fine("35 by the second of them", 1, x.bars(2));
        fine("34 a is so", 0, x.lie(0));
        x.strike(2, 2);
        fine("34 now a lie", 1, x.lie(0));
        fine("35 by the third", 2, x.bars(0));
        x.strike(3, 9);
        fine("34 no world, all lies", 1, x.lie(3));
        fine("35 no world", 3, x.bars(3));
        begin("law hours 3 beside 0 off 1;person a bed 0 to 0 long 2 to 2;told a 0 to 1;struck 0 is 1;struck 1 is 1");
        fine("35 with off as it is", 1, x.bars(0));
        begin("law hours 3 beside 0 off 0;person a bed 0 to 0 long 2 to 2 away;told a 0 to 1;told a 3 to 4");
        fine("34 one away isn't asleep", 1, x.lie(0));
        fine("34 in no hour it is", 0, x.lie(1));
        begin("law hours 4 beside 0 off 0;person a bed 3 to 3 long 3 to 3;told a 3 to 9;told a 2 to 4");
        fine("34 asleep to the end", 0, x.lie(0));
        fine("34 asleep from 3 on", 1, x.lie(1));
        begin(PAIR + ";struck 0 is 1;told a 0 to 2");
        x.say(0, 3);
        x.worlds();
        x.judge();
        fine("35 whatever was said", -2, x.bars(0));
        begin(SPANLESS);
        fine("34 no lot", 1, x.lie(0));
        fine("35 no lot", -1000, x.bars(0));
        proofs();
    }

    private static void proofs() {
        begin(PAIR);
        none("36 there is a world", x.proof(), 5);
        x.strike(0, 1);
        x.strike(1, 0);
        none("36 there is a world", x.proof(), 5);
        x.strike(2, 1);
        fine("36 three hours", 7, x.proof());
        x.strike(3, 1);
        fine("36 one hour", 8, x.proof());
        x.strike(3, 2);
        x.strike(1, 2);
        x.strike(0, 2);
        fine("36 two hours", 3, x.proof());
        begin(PAIR + ";struck 0 is 9;struck 1 is 9");
        fine("36 of like ones the least", 1, x.proof());
        begin("law hours 5 beside 0 off 3;person a bed 0 to 0 long 0 to 0");
        for (int h = 1; h < 5; h++) {
            x.strike(h, 2);
        }
        fine("36 three don't do", -2, x.proof());
        begin("law hours 5 beside 0 off 1;person a bed 0 to 0 long 0 to 0;struck 1 is 2;struck 3 is 2;struck 4 is 2");
        fine("36 two that are off", 10, x.proof());
        begin("law hours 3 beside 0 off 0;person a bed 1 to 1 long 1 to 1;person b bed 1 to 1 long 1 to 1;apart a,b;"
                + "struck 0 is 2");
        fine("36 those apart alone", 0, x.proof());
        begin(SPANLESS);
        fine("36 no lot", 0, x.proof());
        begin(PAIR + ";struck 0 is 1;struck 1 is 1;struck 2 is 1;struck 3 is 9");
        x.worlds();
        x.say(1, 1);
        x.judge();
        fine("36 whatever was said", 8, x.proof());
        x.strike(3, 2);
        x.strike(1, 0);
        fine("36 only the first LOTS are left by some", 7, x.proof());
        begin("law hours 3 beside 0 off 0;person a bed 0 to 2 long 1 to 1;struck 0 is 0;struck 1 is 0");
        fine("36 two, each of which can be", 3, x.proof());
        String two = "law hours 24 beside 0 off 0;person a bed 0 to 7 long 0 to 4;person b bed 0 to 4 long 0 to 4;"
                + "struck 23 is 9;person c bed 0 to ";
        begin(two + "0 long 0 to 4");
        fine("36 5,000 lots", 1 << 23, x.proof());
        begin(two + "5 long 0 to 0");
        none("36 6,000 lots", x.proof(), 3);
    }

    private static void promise37to40() {
        begin("law hours 4 beside 2 off 1;person a bed 0 to 1 long 1 to 2;person b bed 1 to 2 long 1 to 1;"
                + "struck 1 is 2");
        fine("37 the least", 0, x.part(1, false));
        fine("37 the greatest", 2, x.part(1, true));
        refused("37 nothing was struck", x.part(0, true), -1000, 1);
        refused("37 no hour", x.part(4, true), -1000, 1);
        x.strike(1, 4);
        fine("37 one strikes two", 2, x.part(1, false));
        fine("37 one is off", 3, x.part(1, true));
        x.strike(1, 0);
        fine("37 one less", -1, x.part(1, false));
        fine("37 all", 0, x.part(1, true));
        x.strike(1, 9);
        refused("37 no world", x.part(1, true), -1000, 6);
        refused("37 nothing was struck first", x.part(2, true), -1000, 1);
        fine("38 whatever was struck", 2 + 4, x.nothing());
        begin(PAIR + ";apart a,b");
        fine("38 apart, never", 0, x.nothing());
        begin(PAIR + ";born 2");
        fine("38 born", 2, x.nothing());
        begin(PAIR + ";born 3;born 1");
        fine("38 born twice", 0, x.nothing());
        begin(PAIR + ";person c bed 2 to 2 long 2 to 2;apart b,c");
        fine("38 apart in some lots", 0, x.nothing());
        begin(SPANLESS);
        fine("38 no lot", 0, x.nothing());
        begin("law hours 3 beside 0 off 0;person a bed 0 to 0 long 2 to 2 away");
        fine("38 all away", 7, x.nothing());
        String keep = "law hours 8 beside 0 off 0;person a bed 0 to 0 long 0 to 0 away;offer a 0 to 4;offer a 0 to 3";
        begin(keep + ";offer a 2 to 6;offer a 6 to 9;offer a 3 to 24;offer a 4 to 8");
        fine("39 the fewest, the least bits", 1 + 16, x.keep());
        begin(keep + ";offer a 2 to 6;offer a 5 to 9");
        fine("39 three", 1 + 4 + 8, x.keep());
        begin(keep + ";offer a 2 to 6;offer a 7 to 8");
        fine("39 all don't do", -2, x.keep());
        begin(PAIR);
        fine("39 no offers", -2, x.keep());
        begin(PAIR + ";offer a 0 to 24");
        fine("39 one that goes on for long", 1, x.keep());
        begin(PAIR + ";offer a 0 to 2;offer b 2 to 9");
        fine("39 all offers", 3, x.keep());
        begin(PAIR + ";offer a 1 to 4");
        fine("39 nobody in 0", -2, x.keep());
        begin(PAIR + ";struck 0 is 3;struck 2 is 0;struck 3 is 99;struck 4 is 0");
        fine("40 none", 4, x.quiet(0));
        fine("40 two", 4, x.quiet(2));
        fine("40 three", 5, x.quiet(3));
        fine("40 99", 13, x.quiet(99));
        none("40 above", x.quiet(100), 2);
        none("40 below", x.quiet(-1), 2);
    }

    private static void promise41to43() {
        begin(PAIR + ";struck 1 is 1;struck 7 is 1");
        fine("43 struck", 1, x.struck(1));
        fine("43 nothing told", -2, x.struck(0));
        none("43 no hour", x.struck(4), 1);
        none("43 no hour below", x.struck(-1), 1);
        fine("41 one more", 2, x.strike(3, 0));
        fine("41 whatever was", 2, x.strike(3, 99));
        fine("43 struck", 99, x.struck(3));
        none("41 above", x.strike(3, 100), 2);
        none("41 below", x.strike(3, -1), 2);
        none("41 no hour", x.strike(4, 1), 1);
        none("41 no hour first", x.strike(-1, -1), 1);
        fine("43 it stays", 99, x.struck(3));
        fine("16 no world", 0, x.worlds());
        fine("42 still", true, x.still(3));
        fine("43 nothing told any more", -2, x.struck(3));
        fine("16 worlds again", 4, x.worlds());
        refused("42 nothing was", x.still(3), 1);
        refused("42 no hour", x.still(4), 1);
        refused("42 no hour below", x.still(-1), 1);
        fine("41 nothing struck is a stroke, too", 2, x.strike(0, 0));
        fine("43 none", 0, x.struck(0));
        fine("42 still", true, x.still(0));
        fine("43 nothing told", -2, x.struck(0));
        Due.is("42 one less", 1, x.size(3));
    }

    private static void promise44to48() {
        begin(PAIR + ";struck 1 is 1");
        int[] due = {0, 3, 5, 7};
        for (int i = 0; i < 4; i++) {
            fine("44 seek", due[i], x.seek());
            Due.is("44 cursor", due[i] + 1, x.size(8));
        }
        none("44 none any more", x.seek(), 6);
        Due.is("44 the cursor stays", 8, x.size(8));
        fine("45 lot", 2, x.lot(5, 0));
        fine("45 lot", 1, x.lot(5, 1));
        none("45 no number", x.lot(8, 0), 1);
        none("45 no number below", x.lot(-1, 0), 1);
        none("45 no person", x.lot(0, 2), 1);
        fine("46 again", true, x.again());
        Due.is("46 cursor", 0, x.size(8));
        x.seek();
        x.seek();
        x.say(0, 3);
        x.say(1, 1);
        fine("47 image", (4L * 40 + 3) * 40 + 1, x.image());
        x.again();
        x.say(0, 0);
        fine("47 image", 1, x.image());
        fine("48 restore", true, x.restore((4L * 40 + 3) * 40 + 1));
        Due.is("48 said", 3, x.said(0));
        Due.is("48 said", 1, x.said(1));
        fine("48 gone on", 5, x.seek());
        refused("48 no such span", x.restore(4 * 40), 2);
        refused("48 no such span, the last", x.restore(2), 2);
        refused("48 cursor", x.restore(20001L * 1600), 2);
        refused("48 below", x.restore(-1), 2);
        refused("48 far below", x.restore(Long.MIN_VALUE), 2);
        refused("48 far above", x.restore(Long.MAX_VALUE), 2);
        Due.is("48 refused, it stays", 3, x.said(0));
        Due.is("48 refused, it stays", 6, x.size(8));
        fine("48 cursor 20,000", true, x.restore(20000L * 1600));
        Due.is("48 cursor 20,000", 20000, x.size(8));
        fine("48 all 0", true, x.restore(0));
        Due.is("48 all 0", 0, x.said(0));
        fine("48 cursor 20,000", true, x.restore(20000L * 1600));
        none("44 behind all", x.seek(), 6);
        begin(SPANLESS);
        fine("47 one without spans", 0, x.image());
        fine("48 one without spans", true, x.restore(40));
        Due.is("48 said", 1, x.said(0));
        refused("48 one without spans, but 0", x.restore(41), 2);
        none("44 no world", x.seek(), 6);
        none("45 no lot", x.lot(0, 0), 1);
        begin(FULL);
        fine("45 the last lot", 19, x.lot(19999, 2));
        fine("48 restore", true, x.restore(19999L * 64000));
        fine("44 the last lot", 19999, x.seek());
        Due.is("44 cursor", 20000, x.size(8));
        none("44 none any more", x.seek(), 6);
    }

    private static int led(int i) {
        try {
            return x.led(i);
        } catch (NoSuchElementException e) {
            return -9;
        }
    }

    private static void promise49to51() {
        begin(PAIR + ";person c bed 0 to 0 long 0 to 0 away;person d bed 0 to 0 long 0 to 0;"
                + "person e bed 0 to 0 long 0 to 0 away;apart a,b;born 1;born 9;struck 0 is 1;"
                + "struck 3 is 3;struck 4 is 1;"
                + "told a 1 to 2;offer a 1 to 2;offer b 1 to 2;sexton b");
        none("51 a trouble", x.spans(9), 1);
        Due.is("49 the first", 2, led(0));
        Due.is("49 the second", 4, led(1));
        Due.is("49 no third", -9, led(2));
        Due.is("49 below", -9, led(-1));
        Due.is("49 far below", -9, led(Integer.MIN_VALUE));
        x.seek();
        x.feed(0, 0, 0, 0, 0);
        int[] due = {5, 1, 2, 2, 1, 2, 4, 1, 3, 20};
        x.restore(3L * 40 * 40 * 40 * 40 * 40);
        none("51 a trouble", x.quiet(100), 2);
        for (int what = 0; what < 10; what++) {
            Due.is("50 size " + what, due[what], x.size(what));
        }
        Due.is("50 others", -1, x.size(10));
        Due.is("50 others", -1, x.size(-1));
        Due.is("51 none of these may be refused", 2, x.trouble());
        Due.is("51 twice", 2, x.trouble());
        x.fault();
        x.where();
        Due.is("51 nor these", 2, x.trouble());
        fine("51 gone with the next", 4, x.spans(0));
        begin("law hours 1 beside 0 off 0;person a bed 0 to 0 long 0 to 0 away;person b bed 0 to 0 long 0 to 0");
        Due.is("49 the first of all", 0, led(0));
        Due.is("49 no second", -9, led(1));
    }

    /** What is refused for want of a PARISH, or for too many LOTS. */
    private static void bare(int trouble) {
        none("16 worlds", x.worlds(), trouble);
        none("17 can", x.can(), trouble);
        none("18 world", x.world(0, 0), trouble);
        none("19 weights", x.weights(), trouble);
        none("20 having", x.having(0, 0), trouble);
        none("21 times", x.times(0, 0), trouble);
        none("22 sure", x.sure(0, 0), trouble);
        none("23 surely", x.surely(0, true), trouble);
        none("24 chance", x.chance(0, 0), trouble);
        none("25 likeliest", x.likeliest(0), trouble);
        none("26 greatest", x.greatest(), trouble);
        none("27 together", x.together(0, 1), trouble);
        none("28 possible", x.possible(0), trouble);
        none("29 hiding", x.hiding(0, 0), trouble);
        none("30 bed", x.bed(0, true), trouble);
        none("31 sleeps", x.sleeps(0, true), trouble);
        none("32 ask", x.ask(), trouble);
        none("33 askFor", x.askFor(0), trouble);
        none("34 lie", x.lie(0), trouble);
        none("35 bars", x.bars(0), trouble);
        none("36 proof", x.proof(), trouble);
        refused("37 part", x.part(0, true), -1000, trouble);
        none("38 nothing", x.nothing(), trouble);
        none("44 seek", x.seek(), trouble);
        none("45 lot", x.lot(0, 0), trouble);
    }

    private static void without() {
        x = new StrikeAwake();
        bare(1);
        none("6 spans", x.spans(0), 1);
        none("7 span", x.span(0, 0, 0), 1);
        none("8 awake", x.awake(0, 0, 0), 1);
        none("9 lots", x.lots(), 1);
        refused("10 say", x.say(0, 0), 1);
        none("11 said", x.said(0), 1);
        none("12 strikes", x.strikes(0), 1);
        none("13 judge", x.judge(), 1);
        none("14 why", x.why(), 1);
        none("15 agrees", x.agrees(), 1);
        none("39 keep", x.keep(), 1);
        none("40 quiet", x.quiet(0), 1);
        none("40 quiet, no parish first", x.quiet(-1), 1);
        none("41 strike", x.strike(0, 0), 1);
        refused("42 still", x.still(0), 1);
        none("43 struck", x.struck(0), 1);
        refused("46 again", x.again(), 1);
        none("47 image", x.image(), 1);
        refused("48 restore", x.restore(0), 1);
        refused("48 restore, no parish first", x.restore(-1), 1);
        Due.is("49 led", -9, led(0));
        for (int what = 0; what < 10; what++) {
            Due.is("50 size without a parish " + what, 0, x.size(what));
        }
        none("3 a fault with a sexton", Texts.parish(x, PAIR + ";sexton b;sexton a"), 4);
        Due.is("50 no sexton of a parish refused", 0, x.size(7));
        fine("3 a parish", 2, Texts.parish(x, PAIR));
        Due.is("50 a parish without a sexton", -2, x.size(7));
        fine("3 a parish", 2, Texts.parish(x, PAIR + ";sexton b"));
        Due.is("50 a parish with one", 1, x.size(7));
        none("3 a fault", Texts.parish(x, PAIR + ";sexton"), 4);
        Due.is("50 the sexton stays", 1, x.size(7));
    }

    private static void tooMany() {
        begin(OVER);
        bare(3);
        none("18 no person first", x.world(0, 3), 1);
        none("18 none ahead of the first, first", x.world(-1, 0), 1);
        none("18 none far ahead of it, first", x.world(Integer.MIN_VALUE, 2), 1);
        none("18 a later one isn't known", x.world(Integer.MAX_VALUE, 2), 3);
        none("20 no span first", x.having(2, 21), 1);
        none("21 no hour first", x.times(0, 24), 1);
        none("23 no hour first", x.surely(24, true), 1);
        none("27 one twice first", x.together(0, 0), 1);
        none("34 nothing told first", x.lie(1), 1);
        none("35 nothing told first", x.bars(1), 1);
        refused("37 nothing struck first", x.part(1, true), -1000, 1);
        none("45 no number first", x.lot(21000, 0), 1);
        none("45 a number", x.lot(20999, 0), 3);
        fine("39 keep", -2, x.keep());
        fine("40 quiet", 1, x.quiet(3));
        fine("46 again", true, x.again());
        fine("48 restore", true, x.restore(39L * 1600));
        fine("47 image", 39L * 1600, x.image());
    }

    /** LINES by which in each of the 24 HOURS so many were struck. */
    private static String struckAlways(int many) {
        StringBuilder lines = new StringBuilder();
        for (int hour = 0; hour < 24; hour++) {
            lines.append(";struck ").append(hour).append(" is ").append(many);
        }
        return lines.toString();
    }

    /** All rooms full at once: 40 SPANS, 24 HOURS struck. */
    private static void fullest() {
        begin("law hours 24 beside 9 off 0;person a bed 0 to 7 long 0 to 4;told a 12 to 13;told a 7 to 11"
                + struckAlways(1));
        fine("16 worlds", 40, x.worlds());
        Due.is("50 hours struck", 24, x.size(3));
        fine("40 quiet", 0xFFFFFF, x.quiet(1));
        fine("28 possible", (1L << 40) - 1, x.possible(0));
        fine("20 having the last", 1, x.having(0, 39));
        none("20 having one more", x.having(0, 40), 1);
        fine("21 times", 36, x.times(0, 0));
        fine("24 chance", 90, x.chance(0, 0));
        fine("24 chance in the last hour", 100, x.chance(0, 23));
        fine("30 bed", 7, x.bed(0, true));
        fine("31 sleeps", 4, x.sleeps(0, true));
        fine("34 so in no span", 1, x.lie(0));
        fine("35 so in no span", -1000, x.bars(0));
        fine("34 so in the last span", 0, x.lie(1));
        fine("35 so in the last span", -2, x.bars(1));
        fine("37 part", 0, x.part(23, true));
        fine("37 part", 1, x.part(0, true));
        fine("32 ask", 1, x.ask());
        String wakeful = "beside 0 off 3;person a bed 0 to 0 long 0 to 0";
        begin("law hours 24 " + wakeful + struckAlways(2));
        fine("36 three hours off may be", -2, x.proof());
        begin("law hours 24 " + wakeful.replace('3', '2') + struckAlways(2));
        fine("36 three hours off may not", 7, x.proof());
        begin("law hours 24 " + wakeful + struckAlways(3));
        fine("36 one hour does", 1, x.proof());
    }

    /** One who is apart from two: both asleep with it are no less wrong than one. */
    private static void apartFromTwo() {
        begin("law hours 2 beside 0 off 0;person a bed 0 to 0 long 1 to 1;person b bed 0 to 0 long 1 to 1;"
                + "person c bed 0 to 1 long 1 to 1;apart a,c;apart b,c;told c 0 to 1");
        fine("16 worlds", 1, x.worlds());
        fine("13 judge", 0, x.judge());
        fine("14 why", 2, x.why());
        fine("15 agrees", 0, x.agrees());
        fine("35 bars", -1000, x.bars(0));
        fine("38 nothing", 0, x.nothing());
        fine("17 can by one world", 1, x.can());
        fine("18 one span", 0, x.world(0, 0));
        fine("18 the other span", 1, x.world(0, 2));
        fine("25 likeliest isn't the first lot", 1, x.likeliest(2));
        fine("26 greatest", 1, x.greatest());
        fine("24 chance by a weight of 1", 100, x.chance(2, 0));
    }

    /** Two LOTS, each asleep in one HOUR of two. */
    private static void twoLots() {
        String one = "person a bed 0 to 1 long 1 to 1";
        begin("law hours 2 beside 0 off 0;" + one + ";struck 0 is 1;struck 1 is 1");
        fine("36 either hour leaves a lot", 3, x.proof());
        begin("law hours 2 beside 1 off 0;" + one + ";struck 0 is 1;struck 1 is 1");
        fine("37 the first world has less", 0, x.part(0, false));
        fine("37 the first world has less", 1, x.part(0, true));
        fine("37 the first world has more", 0, x.part(1, false));
        fine("37 the first world has more", 1, x.part(1, true));
        begin("law hours 3 beside 0 off 0;person a bed 0 to 0 long 2 to 3;born 2;born 2");
        fine("38 nothing in both lots, and two born", 3, x.nothing());
        fine("12 two born", 3, x.strikes(2));
    }

    public static void main(String[] args) {
        promise1to5();
        promise6to9();
        promise10to15();
        promise16to21();
        promise22to26();
        promise27to31();
        promise32to33();
        promise34to36();
        promise37to40();
        promise41to43();
        promise44to48();
        promise49to51();
        without();
        tooMany();
        fullest();
        apartFromTwo();
        twoLots();
        Due.end("PromiseTest");
    }
}
