import java.util.NoSuchElementException;

/** The edges of an hour more and one by one (Terms, III: CURSOR, IMAGE; IV) and of promises 41 to 51. */
final class CallEdges extends Edge {
    /** As many people, each with 40 SPANS; each digit of an IMAGE from 0 to 39. */
    private static final long SIX = 40L * 40 * 40 * 40 * 40 * 40;
    private static final int[] NO_STROKES = {-1, 100, Integer.MIN_VALUE, Integer.MAX_VALUE};

    private CallEdges() {
    }

    static void run() {
        cursor();
        image();
        trouble();
        constants();
        lastCall();
        promise41();
        promise42();
        promise43();
        promise44();
        promise45();
        promise46();
        promise47();
        promise48();
        promise49();
        promise50();
        promise51();
    }

    private static void cursor() {
        term("CURSOR: the number of a LOT, 0 at first.");
        x = new StrikeAwake();
        due("no PARISH", 0, x.size(8));
        begin(FULL);
        due("at first", 0, x.size(8));
        due("image()", 0, x.image());
        due("restore()", true, x.restore(19999L * 64000));
        due("the last LOT", 19999, x.size(8));
        due("seek()", 19999, x.seek());
        due("behind the last LOT", 20000, x.size(8));
        due("a text", 1, Texts.parish(x, ONE));
        due("at first of another text", 0, x.size(8));
    }

    private static void image() {
        term("IMAGE: CURSOR, then for each person by LINES times 40 and its SPAN as SAID.");
        begin(ONE);
        due("all 0", 0, x.image());
        x.seek();
        due("one person", 40, x.image());
        begin(MOST);
        long image = 0;
        for (int person = 0; person < 6; person++) {
            x.say(person, 39 - person);
            image = image * 40 + 39 - person;
        }
        due("six people", image, x.image());
        begin(MOST);
        x.say(0, 39);
        due("the first person", 39L * 40 * 40 * 40 * 40 * 40, x.image());
        x.say(0, 0);
        x.say(5, 39);
        due("the last person", 39, x.image());
        due("the greatest: more than an int holds", true, x.restore(20000 * SIX + SIX - 1));
        due("the greatest: more than an int holds", 20000 * SIX + SIX - 1, x.image());
    }

    private static void trouble() {
        term("IV. TROUBLE of the latest call that may be refused (those of which a number is told here): 0 it wasn't"
                + "; 1 there is none"
                + " such; 2 a number; 3 no room; 4 a FAULT; 5 not so; 6 there is none.");
        x = new StrikeAwake();
        due("no call yet", 0, x.trouble());
        none("2", 2, x.parish(1));
        none("4", 4, x.parish(0));
        none("1", 1, x.worlds());
        fine("0", 4, Texts.parish(x, OVER));
        none("3", 3, x.worlds());
        fine("0", 1, Texts.parish(x, ONE));
        none("5", 5, x.proof());
        fine("a seek", 0, x.seek());
        none("6", 6, x.seek());
        int bytes = 0;
        for (int k = 0; k < 46; k++) {
            bytes = x.feed(0, 0, 0, 0, 0);
            x.fault();
            x.where();
            x.size(k - 5);
        }
        due("a feed too many", -1, bytes);
        due("size of what there isn't", -1, x.size(-1));
        try {
            x.led(0);
        } catch (NoSuchElementException e) {
            bytes = 0;
        }
        due("led of none such", 0, bytes);
        due("none of these may be refused by a number: 6 still", 6, x.trouble());
        due("asked twice", 6, x.trouble());
        denied("a boolean call refused", 1, x.say(0, 1));
        fine("a boolean call that isn't", true, x.say(0, 0));
        refused("a call of -1,000", -1000, 1, x.part(0, true));
        fine("a long call", 1, x.lots());
        none("a call refused", 1, x.struck(3));
        fine("a call without an answer but -2", -2, x.struck(0));
        none("a call refused", 1, x.struck(3));
        fine("a call that answers 0", 0, x.why());
    }

    private static void constants() {
        term("The constants: `NONE = -1`: There is none; refused.");
        due("NONE", -1, StrikeAwake.NONE);
        x = new StrikeAwake();
        none("what is refused", 1, x.worlds());
        due("what there is none of", StrikeAwake.NONE, x.size(10));
        due("where there is none", StrikeAwake.NONE, x.where());
    }

    private static void lastCall() {
        Sentence.begin("What it is", "An object is used for at most 512 calls after it has been made"
                + "; what later calls answer is free.");
        x = new StrikeAwake();
        int calls = (ONE.length() + 19) / 20 + 1;
        due("the first calls", 1, Texts.parish(x, ONE));
        for (; calls < 511; calls++) {
            x.strike(0, (calls + 1) % 2);
        }
        due("call 512", 1, x.worlds());
        // 500 calls, among them the dearest as often as there can be
        begin(FULL);
        for (int k = 0; k < 240; k++) {
            x.strike(2, k % 2 == 0 ? 99 : k % 4);
            // 1 is struck if two of them sleep: 9 of 40, 9 of 25 and 9 of 20 SPANS do
            int one = 9 * 9 * 9 + 31 * 9 * 9 + 9 * 16 * 9 + 9 * 9 * 11;
            due("20,000 LOTS, again and again", k % 4 == 1 ? one : k % 2 == 0 ? 0 : 20000, x.worlds());
        }
    }

    private static void promise41() {
        promise(41, "In an HOUR so many (0 .. 99) were struck, whatever was (the SPANS of the sexton stay): how many "
                + "HOURS are struck.");
        begin("law hours 24 beside 0 off 0;person a bed 0 to 0 long 0 to 1;struck 0 is 1");
        fine("whatever was", 1, x.strike(0, 0));
        due("it is so", 0, x.struck(0));
        fine("the least", 2, x.strike(23, 0));
        fine("the greatest", 2, x.strike(23, 99));
        due("the greatest", 99, x.struck(23));
        for (int hour = 1; hour < 23; hour++) {
            fine("one more", hour + 2, x.strike(hour, 1));
        }
        fine("all 24", 24, x.strike(12, 1));
        due("size(3)", 24, x.size(3));
        due("no WORLD by 99", 0, x.can());
        fine("the same, other strokes", 24, x.strike(23, 1));
        due("one WORLD", 1, x.worlds());
        begin("law hours 6 beside 0 off 0;person s bed 0 to 5 long 1 to 1;sexton s;struck 0 is 1");
        due("five are left by the text", 5, x.spans(0));
        for (int hour = 0; hour < 6; hour++) {
            fine("struck", hour + 1, x.strike(hour, 1));
            due("the SPANS of the sexton stay", 5, x.spans(0));
        }
        due("no WORLD: it would be awake in all", 0, x.worlds());
        promise(41, "NONE: 1; 2.");
        numbers("strike(hour)", 5, -1, hour -> x.strike(hour, 1));
        for (int many : NO_STROKES) {
            none("strike(0, " + many + ")", 2, x.strike(0, many));
            none("no HOUR, strike(6, " + many + ")", 1, x.strike(6, many));
            none("no HOUR, strike(-1, " + many + ")", 1, x.strike(-1, many));
        }
        due("it stays", 1, x.struck(0));
        x.still(5);
        none("refused", 2, x.strike(5, 100));
        due("nothing is told of it still", -2, x.struck(5));
        due("nothing is told of it still", 5, x.size(3));
        x = new StrikeAwake();
        none("no PARISH", 1, x.strike(0, 0));
        none("no PARISH, and no number", 1, x.strike(0, 100));
        begin(OVER);
        fine("however many LOTS", 2, x.strike(23, 9));
    }

    private static void promise42() {
        promise(42, "Nothing is told of an HOUR any more: true; false: 1 (nothing was).");
        begin("law hours 24 beside 0 off 0;person a bed 0 to 0 long 0 to 0;struck 0 is 0;struck 23 is 99");
        fine("the first HOUR", true, x.still(0));
        due("nothing is told", -2, x.struck(0));
        due("one is left", 1, x.size(3));
        due("no WORLD yet", 0, x.can());
        fine("the last HOUR", true, x.still(23));
        due("none is left", 0, x.size(3));
        due("a WORLD", 1, x.can());
        denied("nothing was any more", 1, x.still(0));
        denied("nothing was ever", 1, x.still(1));
        for (int hour : new int[] {-1, 24, Integer.MIN_VALUE, Integer.MAX_VALUE}) {
            denied("no HOUR " + hour, 1, x.still(hour));
        }
        x.strike(5, 0);
        fine("none struck is told, too", true, x.still(5));
        begin("law hours 3 beside 0 off 0;person a bed 0 to 0 long 0 to 0;struck 3 is 0");
        denied("struck in no HOUR", 1, x.still(3));
        x = new StrikeAwake();
        denied("no PARISH", 1, x.still(0));
    }

    private static void promise43() {
        promise(43, "What was struck in an HOUR; -2 if nothing is told.");
        begin("law hours 24 beside 0 off 0;person a bed 0 to 0 long 0 to 0;struck 0 is 0;struck 23 is 99");
        fine("the least", 0, x.struck(0));
        fine("the greatest", 99, x.struck(23));
        fine("nothing", -2, x.struck(12));
        x.still(0);
        fine("nothing any more", -2, x.struck(0));
        x.strike(0, 7);
        fine("and again", 7, x.struck(0));
        promise(43, "NONE: 1.");
        numbers("struck", 23, -1, hour -> x.struck(hour));
        begin(ONE);
        numbers("struck", 2, -1, hour -> x.struck(hour));
        x = new StrikeAwake();
        none("no PARISH", 1, x.struck(0));
    }

    private static void promise44() {
        promise(44, "The next WORLD from CURSOR on: its LOT's number (CURSOR is one more then).");
        begin(PAIR + ";struck 1 is 1");
        int[] lots = {0, 3, 5, 7};
        for (int lot : lots) {
            fine("LOT " + lot, lot, x.seek());
            due("CURSOR", lot + 1, x.size(8));
        }
        for (int cursor = 0; cursor < 8; cursor++) {
            x.restore(1600L * cursor);
            fine("from " + cursor + " on", cursor == 0 ? 0 : cursor <= 3 ? 3 : cursor <= 5 ? 5 : 7, x.seek());
        }
        begin(ONE);
        fine("one WORLD", 0, x.seek());
        begin(FULL);
        x.restore(64000L * 19999);
        fine("the last of 20,000", 19999, x.seek());
        due("CURSOR", 20000, x.size(8));
        promise(44, "NONE: 1 (no PARISH); 3; 6 (there is none any more: CURSOR stays).");
        none("none any more", 6, x.seek());
        due("CURSOR stays", 20000, x.size(8));
        begin(PAIR + ";struck 1 is 2");
        fine("the only one", 1, x.seek());
        for (int k = 0; k < 3; k++) {
            none("none any more", 6, x.seek());
            due("CURSOR stays", 2, x.size(8));
        }
        x.restore(1600L * 20000);
        none("from far behind on", 6, x.seek());
        due("CURSOR stays", 20000, x.size(8));
        x.strike(1, 1);
        none("other strokes, from far behind on", 6, x.seek());
        x.again();
        fine("other strokes, from the first on", 0, x.seek());
        begin(NEVER);
        none("no WORLD", 6, x.seek());
        due("CURSOR stays", 0, x.size(8));
        begin(SPANLESS);
        none("no LOT", 6, x.seek());
        begin(OVER);
        none("20,088 LOTS", 3, x.seek());
        due("CURSOR stays", 0, x.size(8));
        x.restore(20000L * 2560000);
        none("20,088 LOTS, none behind CURSOR", 3, x.seek());
        due("CURSOR stays", 20000, x.size(8));
        begin(OVER_NEVER);
        none("20,088 LOTS and no WORLD", 3, x.seek());
        x = new StrikeAwake();
        none("no PARISH", 1, x.seek());
    }

    private static void promise45() {
        promise(45, "The SPAN of a person in a LOT (its number).");
        begin(FULL);
        fine("the first", 0, x.lot(0, 0));
        fine("the last", 39, x.lot(19999, 0));
        fine("the last", 24, x.lot(19999, 1));
        fine("the last", 19, x.lot(19999, 2));
        begin(NEVER);
        fine("of no WORLD", 0, x.lot(0, 0));
        promise(45, "NONE: 1; 3.");
        numbers("lot(number)", 0, -1, number -> x.lot(number, 0));
        begin(FULL);
        numbers("lot(number)", 19999, -1, number -> x.lot(number, 1));
        numbers("lot(person)", 2, -1, person -> x.lot(19999, person));
        begin(SPANLESS);
        none("no LOT", 1, x.lot(0, 0));
        begin(OVER);
        none("20,088 LOTS, the first", 3, x.lot(0, 0));
        none("20,088 LOTS, the last", 3, x.lot(20087, 3));
        none("20,088 LOTS, none behind", 1, x.lot(20088, 0));
        none("20,088 LOTS, none ahead", 1, x.lot(-1, 0));
        none("20,088 LOTS, no person", 1, x.lot(0, 4));
        none("20,088 LOTS, no person", 1, x.lot(0, -1));
        begin(MOST);
        none("4,096,000,000 LOTS, the greatest number", 3, x.lot(Integer.MAX_VALUE, 5));
        x = new StrikeAwake();
        none("no PARISH", 1, x.lot(0, 0));
    }

    private static void promise46() {
        promise(46, "CURSOR is 0: true; false: 1 (no PARISH).");
        begin(PAIR);
        fine("at first", true, x.again());
        due("CURSOR", 0, x.size(8));
        x.restore(20000L * 1600 + 41);
        fine("at its greatest", true, x.again());
        due("CURSOR", 0, x.size(8));
        due("what is SAID stays", 41, x.image());
        fine("the first WORLD again", 0, x.seek());
        begin(OVER);
        fine("however many LOTS", true, x.again());
        x = new StrikeAwake();
        denied("no PARISH", 1, x.again());
    }

    private static void promise47() {
        promise(47, "IMAGE.");
        begin(ONE);
        fine("at first", 0, x.image());
        begin(SPANLESS);
        x.say(0, 1);
        fine("one without SPANS", 40, x.image());
        begin(OVER);
        x.say(3, 1);
        fine("however many LOTS", 1, x.image());
        promise(47, "-1: 1 (no PARISH).");
        x = new StrikeAwake();
        none("no PARISH", 1, x.image());
    }

    private static void promise48() {
        promise(48, "CURSOR and what is SAID are those of an IMAGE: true; false: 1 (no PARISH);");
        begin(PAIR);
        x.say(0, 3);
        x.seek();
        x.seek();
        long image = x.image();
        fine("another", 2, Texts.parish(x, PAIR));
        fine("its IMAGE", true, x.restore(image));
        due("CURSOR", 2, x.size(8));
        due("SAID", 3, x.said(0));
        due("SAID", 0, x.said(1));
        fine("gone on", 2, x.seek());
        fine("all 0", true, x.restore(0));
        due("image()", 0, x.image());
        x = new StrikeAwake();
        for (long none : new long[] {0, 1, -1, Long.MIN_VALUE, Long.MAX_VALUE}) {
            denied("no PARISH, " + none, 1, x.restore(none));
        }
        promise(48, "2 (it is none of this PARISH: a SPAN there isn't, but 0; CURSOR above 20,000).");
        begin(PAIR);
        long[] good = {1, 40, 3 * 40 + 1, 20000L * 1600, 20000L * 1600 + 3 * 40 + 1, 19999L * 1600};
        for (long n : good) {
            fine("restore(" + n + ")", true, x.restore(n));
            due("image()", n, x.image());
        }
        long[] bad = {2, 39, 4 * 40, 39 * 40, 4 * 40 + 1, 3 * 40 + 2, 20001L * 1600, 20001L * 1600 + 41, -1, -40, -1600,
            -1600L * 20000, (1L << 32) * 1600, (1L << 32) * 1600 + 1, 1L << 32, 5L << 32, Long.MIN_VALUE,
                    Long.MAX_VALUE,
            Long.MIN_VALUE + 1, Long.MAX_VALUE / 1600 * 1600};
        long before = x.image();
        for (long n : bad) {
            denied("restore(" + n + ")", 2, x.restore(n));
            due("CURSOR and what is SAID stay, image()", before, x.image());
        }
        begin(MOST);
        fine("the greatest of all", true, x.restore(20000 * SIX + SIX - 1));
        denied("one more", 2, x.restore(20000 * SIX + SIX));
        denied("beyond it", 2, x.restore(20001 * SIX));
        begin(SPANLESS);
        fine("one without SPANS: 0", true, x.restore(0));
        fine("one without SPANS: 0", true, x.restore(40));
        denied("one without SPANS: 1", 2, x.restore(1));
        denied("one without SPANS: 39", 2, x.restore(39));
        fine("CURSOR behind the last LOT, there being none", true, x.restore(20000L * 1600));
        due("CURSOR", 20000, x.size(8));
        begin("law hours 1 beside 0 off 0;person a bed 0 to 0 long 0 to 4 away;person b bed 0 to 7 long 0 to 4");
        fine("one away: 0", true, x.restore(39));
        denied("one away: 1", 2, x.restore(40));
        begin(OVER);
        fine("however many LOTS", true, x.restore(20000L * 2560000 + 1));
    }

    private static int led(int i) {
        try {
            return x.led(i);
        } catch (NoSuchElementException e) {
            return -9;
        }
    }

    private static void promise49() {
        promise(49, "The i-th (0: the first) person that is away, by LINES. NoSuchElementException if there is none "
                + "such.");
        x = new StrikeAwake();
        due("no PARISH", -9, led(0));
        due("no PARISH", -9, led(-1));
        begin(ONE);
        due("none away", -9, led(0));
        begin("law hours 1 beside 0 off 0" + forty("abcdef").replace("4", "4 away"));
        for (int i = 0; i < 6; i++) {
            due("all six away", i, led(i));
        }
        for (int i : new int[] {6, -1, Integer.MIN_VALUE, Integer.MAX_VALUE}) {
            due("none such, " + i, -9, led(i));
        }
        begin("law hours 1 beside 0 off 0;person z bed 0 to 0 long 0 to 0;person y bed 0 to 0 long 0 to 0 away;"
                + "person x bed 0 to 0 long 0 to 0;person w bed 0 to 0 long 0 to 0 away");
        due("the first", 1, led(0));
        due("the last", 3, led(1));
        due("none behind", -9, led(2));
        due("another text", 1, Texts.parish(x, ONE));
        due("another text, none away", -9, led(0));
    }

    private static void promise50() {
        promise(50, "0 people, 1 pairs apart, 2 births, 3 HOURS struck now, 4 what was told, 5 offers, 6 HOURS, 7 the "
                + "sexton (-2), 8"
                + " CURSOR, 9 bytes of THE TAPE.");
        begin(ONE);
        int[] least = {1, 0, 0, 0, 0, 0, 3, -2, 0, 0};
        for (int what = 0; what < 10; what++) {
            due("the least, size(" + what + ")", least[what], x.size(what));
        }
        begin("law hours 24 beside 0 off 0" + forty("abcdef").replace("0 to 7 long 0 to 4", "0 to 0 long 0 to 0")
                + ";apart a,b;apart b,c;apart c,d;sexton f" + repeat(";born 1", 3) + struckIn(24, 9)
                + repeat(";told a 0 to 1", 4) + repeat(";offer a 0 to 1", 6));
        x.restore(20000 * SIX);
        for (int k = 0; k < 45; k++) {
            x.feed(0, 0, 0, 0, 0);
        }
        int[] most = {6, 3, 3, 24, 4, 6, 24, 5, 20000, 900};
        for (int what = 0; what < 10; what++) {
            due("the most, size(" + what + ")", most[what], x.size(what));
        }
        x.still(0);
        due("HOURS struck now", 23, x.size(3));
        begin(ONE + ";sexton a");
        due("the first is the sexton", 0, x.size(7));
        promise(50, "NONE for others; 0 for what there isn't.");
        for (int what : new int[] {-1, 10, 11, Integer.MIN_VALUE, Integer.MAX_VALUE}) {
            due("size(" + what + ")", -1, x.size(what));
        }
        x = new StrikeAwake();
        for (int what = 0; what < 10; what++) {
            due("no PARISH, size(" + what + ")", 0, x.size(what));
        }
        for (int what : new int[] {-1, 10}) {
            due("no PARISH, size(" + what + ")", -1, x.size(what));
        }
        x.feed(0, 0, 0, 0, 0);
        due("no PARISH, but a TAPE", 20, x.size(9));
        none("a FAULT", 4, Texts.parish(x, ONE + ";sexton b"));
        for (int what = 0; what < 10; what++) {
            due("no PARISH behind a FAULT, size(" + what + ")", 0, x.size(what));
        }
    }

    private static void promise51() {
        promise(51, "TROUBLE.");
        x = new StrikeAwake();
        due("at first", 0, x.trouble());
        x.spans(0);
        due("a call refused", 1, x.trouble());
        due("asked twice", 1, x.trouble());
        Texts.parish(x, ONE);
        due("a call that isn't", 0, x.trouble());
    }
}
