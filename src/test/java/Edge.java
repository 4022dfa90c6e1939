import java.util.function.IntToLongFunction;

/** What the tests of the document's edges share; each stands behind the sentence that it is for. */
abstract class Edge {
    /**
     * LOTS (a, b) and what they strike in HOURS 0 to 3:
     * 0 (0,0) 1 1 2 2; 1 (0,1) 1 2 1 2; 2 (1,0) 1 0 2 2; 3 (1,1) 1 1 1 2;
     * 4 (2,0) 2 0 2 2; 5 (2,1) 2 1 1 2; 6 (3,0) 2 0 1 2; 7 (3,1) 2 1 0 2.
     */
    static final String PAIR = "law hours 4 beside 0 off 0;person a bed 0 to 1 long 1 to 2;"
            + "person b bed 1 to 2 long 1 to 1 habit 2";
    /** One LOT: asleep in HOUR 1 alone. */
    static final String ONE = "law hours 3 beside 0 off 0;person a bed 1 to 1 long 1 to 1 habit 1";
    /** One LOT, and what is struck in HOUR 0 bars it. */
    static final String NEVER = ONE + ";struck 0 is 9;told a 1 to 2;told a 0 to 1";
    /** The sexton s sleeps in HOUR 1, which is struck: it has no SPAN. */
    static final String SPANLESS = "law hours 3 beside 0 off 0;person a bed 0 to 1 long 1 to 1;"
            + "person s bed 1 to 1 long 1 to 1;sexton s;struck 1 is 1;told a 0 to 1";
    /** 40, 25 and 20 SPANS: 20,000 LOTS, just as many as there may be; all are WORLDS. */
    static final String FULL = "law hours 24 beside 9 off 0;person a bed 0 to 7 long 0 to 4;"
            + "person b bed 0 to 4 long 0 to 4;person c bed 0 to 3 long 0 to 4;told a 0 to 1;struck 2 is 3";
    /** 31 (HOUR 2 is struck), 18, 18 and 2 SPANS: 20,088 LOTS; no text has fewer above 20,000. */
    private static final String MORE = ";person s bed 0 to 7 long 0 to 4;person b bed 0 to 5 long 0 to 2;"
            + "person c bed 0 to 5 long 0 to 2;person d bed 0 to 1 long 0 to 0;sexton s;told b 0 to 1;struck 2 is ";
    /** All its LOTS are WORLDS. */
    static final String OVER = "law hours 24 beside 9 off 0" + MORE + "4";
    /** None of its LOTS is. */
    static final String OVER_NEVER = "law hours 24 beside 0 off 0" + MORE + "99";
    /** Forty SPANS for each of six: 4,096,000,000 LOTS, more than an int holds. */
    static final String MOST = "law hours 24 beside 9 off 3" + forty("abcdef");
    private static final int[] NO_NUMBERS = {Integer.MIN_VALUE, -1, Integer.MAX_VALUE};

    static StrikeAwake x;

    /** A call of one number. */
    interface OfOne {
        long of(int number);
    }

    static void term(String words) {
        Sentence.begin("Terms", words);
    }

    static void promise(int number, String words) {
        Sentence.begin("Promise " + number, words);
    }

    static void due(String call, long want, long got) {
        Due.is(Sentence.current() + call, want, got);
    }

    static void due(String call, boolean want, boolean got) {
        due(call, want ? 1 : 0, got ? 1 : 0);
    }

    /** An answer that isn't refused. */
    static void fine(String call, long want, long got) {
        int trouble = x.trouble();
        due(call, want, got);
        due(call + ", then trouble()", 0, trouble);
    }

    static void fine(String call, boolean want, boolean got) {
        fine(call, want ? 1 : 0, got ? 1 : 0);
    }

    static void refused(String call, long want, int wantTrouble, long got) {
        int trouble = x.trouble();
        int where = x.where();
        due(call, want, got);
        due(call + ", then trouble()", wantTrouble, trouble);
        due(call + ", then where()", true, where == -1 || wantTrouble == 4);
    }

    static void none(String call, int wantTrouble, long got) {
        refused(call, -1, wantTrouble, got);
    }

    static void denied(String call, int wantTrouble, boolean got) {
        refused(call, 0, wantTrouble, got ? 1 : 0);
    }

    /** Numbers from 0 to the last are answered; those below and behind are refused by 1. */
    static void numbers(String call, int last, long refusal, OfOne asked) {
        for (int number : NO_NUMBERS) {
            refused(call + " of " + number, refusal, 1, asked.of(number));
        }
        refused(call + " of " + (last + 1), refusal, 1, asked.of(last + 1));
        asked.of(0);
        due(call + " of 0, then trouble()", 0, x.trouble());
        asked.of(last);
        due(call + " of " + last + ", then trouble()", 0, x.trouble());
    }

    static void begin(String text) {
        x = Texts.with(text);
    }

    /** A text that is read: so many people. */
    static void reads(int people, String text) {
        x = new StrikeAwake();
        fine(text, people, Texts.parish(x, text));
        due(text + ", then fault()", 0, x.fault());
        due(text + ", then where()", -1, x.where());
    }

    /** A text with a FAULT; ^ (taken out ahead of reading) stands where it is. */
    static void fault(int number, String marked) {
        int place = marked.indexOf('^');
        x = new StrikeAwake();
        long people = Texts.parish(x, marked.substring(0, place) + marked.substring(place + 1));
        int where = x.where();
        none(marked, 4, people);
        due(marked + ", then where()", place, where);
        due(marked + ", then fault()", number, x.fault());
        due(marked + ", then size(0)", 0, x.size(0));
    }

    static String repeat(String text, int many) {
        return text.repeat(many);
    }

    /** LINES of people with 40 SPANS each. */
    static String forty(String names) {
        StringBuilder lines = new StringBuilder();
        for (char name : names.toCharArray()) {
            lines.append(";person ").append(name).append(" bed 0 to 7 long 0 to 4");
        }
        return lines.toString();
    }

    /** LINES by which in HOURS 0 up to one so many were struck. */
    static String struckIn(int hours, int many) {
        StringBuilder lines = new StringBuilder();
        for (int hour = 0; hour < hours; hour++) {
            lines.append(";struck ").append(hour).append(" is ").append(many);
        }
        return lines.toString();
    }

    /** HOURS in which a call answers 1, as bits. */
    static int hoursOf(IntToLongFunction asked) {
        int bits = 0;
        int hours = x.size(6);
        for (int hour = 0; hour < hours; hour++) {
            if (asked.applyAsLong(hour) == 1) {
                bits |= 1 << hour;
            }
        }
        return bits;
    }

    static int awakeIn(int person, int i) {
        return hoursOf(hour -> x.awake(person, i, hour));
    }

    /** All that can be seen of an object but its TROUBLE and FAULT. */
    static long[] look() {
        long[] seen = new long[100];
        int n = 0;
        int hours = x.size(6);
        int people = x.size(0);
        for (int what = 0; what < 10; what++) {
            seen[n++] = x.size(what);
        }
        for (int hour = 0; hour < hours; hour++) {
            seen[n++] = x.struck(hour);
            seen[n++] = x.strikes(hour);
        }
        for (int person = 0; person < people; person++) {
            seen[n++] = x.spans(person);
            seen[n++] = x.said(person);
            seen[n++] = x.span(person, 0, 2);
        }
        for (int told = 0; told < 4; told++) {
            seen[n++] = x.bars(told);
        }
        seen[n++] = x.image();
        seen[n++] = x.lots();
        seen[n++] = x.worlds();
        seen[n++] = x.weights();
        seen[n++] = x.nothing();
        seen[n++] = x.keep();
        seen[n++] = x.judge();
        seen[n++] = x.agrees();
        return seen;
    }

    static void sameLook(String call, long[] before) {
        long[] after = look();
        for (int k = 0; k < before.length; k++) {
            due(call + ", what is seen (" + k + ") stays", before[k], after[k]);
        }
    }
}
