/**
 * Each call that may be refused, in each of eight states: by which TROUBLE, what it answers then, and that all else
 * stays as it was. Where it could be refused by two, it is the one that the document asks for.
 */
final class RefusalEdges extends Edge {
    private static final String TWO = "law hours 3 beside 0 off 0;person a bed 0 to 1 long 1 to 1;"
            + "person b bed 0 to 0 long 0 to 0;told a 0 to 1;struck 0 is 1;struck 2 is ";
    /** In each of them HOUR 2 is struck, and there are two people at least. */
    private static final String[] STATES = {
        // no PARISH
        null,
        // one WORLD
        TWO + "2",
        // no WORLD
        TWO + "9",
        // the second person has no SPAN
        "law hours 3 beside 0 off 0;person a bed 0 to 1 long 1 to 1;person s bed 2 to 2 long 1 to 1;sexton s"
                + ";told a 0 to 1;"
            + "struck 2 is 1",
        OVER,
        OVER_NEVER,
        // 401 WORLDS of 625 LOTS
        "law hours 24 beside 2 off 0;person a bed 0 to 4 long 0 to 4;person b bed 1 to 5 long 0 to 4;apart a,b"
                + ";told a 0 to 1;"
            + "struck 2 is 2",
        // 5,022 LOTS and no WORLD
        "law hours 24 beside 0 off 0;person a bed 0 to 7 long 0 to 4;person b bed 0 to 5 long 0 to 2;"
            + "person c bed 0 to 2 long 0 to 2;sexton a;told b 0 to 1;struck 2 is 99",
    };

    private RefusalEdges() {
    }

    static void run() {
        parish();
        spansAndSaid();
        worlds();
        asking();
        others();
    }

    private static void to(int state) {
        x = STATES[state] == null ? new StrikeAwake() : Texts.with(STATES[state]);
        x.feed(1, 2, 3, 4, 5);
        x.say(0, 1);
        x.restore(x.image() + (state == 0 ? 0 : 3L * (long) Math.pow(40, x.size(0))));
    }

    private static void at(int state, String call, int trouble, long refusal, OfOne asked) {
        to(state);
        long[] before = look();
        // another TROUBLE ahead, so that it is seen to change
        x.parish(-1);
        String label = call + " in state " + state;
        long answer = asked.of(0);
        if (trouble == 0) {
            due(label + ", then trouble()", 0, x.trouble());
            return;
        }
        refused(label, refusal, trouble, answer);
        due(label + ", then fault()", 0, x.fault());
        sameLook(label, before);
    }

    /** The TROUBLE in each state, of fit arguments; those behind are unfit, and refused by 1 in all states. */
    private static void call(int promise, String sentence, long refusal, String troubles, OfOne fit, OfOne... unfit) {
        promise(promise, sentence);
        for (int state = 0; state < STATES.length; state++) {
            at(state, "fit", troubles.charAt(state) - '0', refusal, fit);
            for (int k = 0; k < unfit.length; k++) {
                at(state, "unfit " + k, 1, refusal, unfit[k]);
            }
        }
    }

    /** A number that isn't one is refused by 2, but with no PARISH by 1. */
    private static void numberOf(int promise, String sentence, long refusal, OfOne... unfit) {
        promise(promise, sentence);
        for (int state = 0; state < STATES.length; state++) {
            for (int k = 0; k < unfit.length; k++) {
                at(state, "no number " + k, state == 0 ? 1 : 2, refusal, unfit[k]);
            }
        }
    }

    private static void parish() {
        promise(3, "NONE: 2 (THE TAPE stays); 4 (the PARISH stays).");
        for (int state = 0; state < STATES.length; state++) {
            at(state, "parish(21)", 2, -1, n -> x.parish(21));
            at(state, "parish(-1)", 2, -1, n -> x.parish(-1));
            to(state);
            long[] before = look();
            none("parish(20) in state " + state, 4, x.parish(20));
            due("parish(20) in state " + state + ", where()", 0, x.where());
            due("THE TAPE is empty then", 0, x.size(9));
            x.feed(1, 2, 3, 4, 5);
            sameLook("parish(20) in state " + state, before);
        }
    }

    private static long bit(boolean is) {
        return is ? 1 : 0;
    }

    private static void spansAndSaid() {
        call(6, "NONE: 1.", -1, "10000000", n -> x.spans(0), n -> x.spans(-1), n -> x.spans(6));
        call(7, "NONE: 1 (person, i, what).", -1, "10000000", n -> x.span(0, 0, 0), n -> x.span(6, 0, 0),
                n -> x.span(-1, 0, 0),
                n -> x.span(0, -1, 0), n -> x.span(0, 40, 0), n -> x.span(0, 0, -1), n -> x.span(0, 0, 3));
        call(8, "NONE: 1 (person, i, HOUR).", -1, "10000000", n -> x.awake(0, 0, 2), n -> x.awake(6, 0, 2),
                n -> x.awake(-1, 0, 2), n -> x.awake(0, -1, 2), n -> x.awake(0, 40, 2), n -> x.awake(0, 0, -1),
                n -> x.awake(0, 0, 24));
        call(9, "-1: 1 (no PARISH).", -1, "10000000", n -> x.lots());
        call(10, "false: 1.", 0, "10000000", n -> bit(x.say(0, 0)), n -> bit(x.say(6, 0)), n -> bit(x.say(-1, 0)),
                n -> bit(x.say(0, 40)), n -> bit(x.say(0, -1)));
        call(11, "NONE: 1 (a person without SPANS, too).", -1, "10010000", n -> x.said(1), n -> x.said(6),
                n -> x.said(-1));
        call(12, "NONE: 1; 5 (someone has no SPAN).", -1, "10050000", n -> x.strikes(2), n -> x.strikes(24),
                n -> x.strikes(-1));
        call(13, "NONE: 1 (no PARISH); 5 (likewise).", -1, "10050000", n -> x.judge());
        call(14, "NONE: likewise.", -1, "10050000", n -> x.why());
        call(15, "NONE: likewise.", -1, "10050000", n -> x.agrees());
    }

    private static void worlds() {
        call(16, "NONE: 1 (no PARISH); 3.", -1, "10003300", n -> x.worlds());
        call(17, "NONE: likewise.", -1, "10003300", n -> x.can());
        call(18, "NONE: 1 (person; i); 3.", -1, "10113301", n -> x.world(0, 0), n -> x.world(-1, 0), n -> x.world(0, 6),
                n -> x.world(0, -1));
        call(19, "-1: 1 (no PARISH); 3.", -1, "10003300", n -> x.weights());
        call(20, "NONE: 1; 3.", -1, "10003300", n -> x.having(0, 0), n -> x.having(6, 0), n -> x.having(-1, 0),
                n -> x.having(0, 40), n -> x.having(0, -1));
        call(21, "NONE: 1; 3.", -1, "10003300", n -> x.times(0, 2), n -> x.times(6, 2), n -> x.times(-1, 2),
                n -> x.times(0, 24), n -> x.times(0, -1));
        call(22, "NONE: 1; 3; 6 (no WORLD).", -1, "10663306", n -> x.sure(0, 2), n -> x.sure(6, 2), n -> x.sure(-1, 2),
                n -> x.sure(0, 24), n -> x.sure(0, -1));
        call(23, "NONE: 1; 3; 6.", -1, "10663306", n -> x.surely(2, true), n -> x.surely(24, true),
                n -> x.surely(-1, false));
        call(24, "NONE: 1; 3; 6.", -1, "10663306", n -> x.chance(0, 2), n -> x.chance(6, 2), n -> x.chance(-1, 2),
                n -> x.chance(0, 24), n -> x.chance(0, -1));
        call(25, "NONE: 1; 3; 6.", -1, "10663306", n -> x.likeliest(0), n -> x.likeliest(6), n -> x.likeliest(-1));
        call(26, "-1: 1 (no PARISH); 3; 6.", -1, "10663306", n -> x.greatest());
        call(27, "NONE: 1 (one twice, too); 3.", -1, "10003300", n -> x.together(0, 1), n -> x.together(6, 1),
                n -> x.together(-1, 1), n -> x.together(0, 6), n -> x.together(0, -1), n -> x.together(1, 1));
        call(28, "-1: 1; 3.", -1, "10003300", n -> x.possible(0), n -> x.possible(6), n -> x.possible(-1));
        call(29, "NONE: 1; 3.", -1, "10003300", n -> x.hiding(0, 2), n -> x.hiding(6, 2), n -> x.hiding(-1, 2),
                n -> x.hiding(0, 24), n -> x.hiding(0, -1));
        call(30, "NONE: 1; 3; 6.", -1, "10663306", n -> x.bed(0, true), n -> x.bed(6, true), n -> x.bed(-1, false));
        call(31, "NONE: likewise.", -1, "10663306", n -> x.sleeps(0, true), n -> x.sleeps(6, true),
                n -> x.sleeps(-1, false));
    }

    private static void asking() {
        call(32, "NONE: 1 (no PARISH); 3 (also: more than 400 WORLDS); 6 (no WORLD).", -1, "10663336", n -> x.ask());
        call(33, "NONE: 1; 3; 6.", -1, "10663336", n -> x.askFor(2), n -> x.askFor(24), n -> x.askFor(-1));
        call(34, "NONE: 1; 3.", -1, "10003300", n -> x.lie(0), n -> x.lie(1), n -> x.lie(-1));
        call(35, "NONE: 1; 3.", -1, "10003300", n -> x.bars(0), n -> x.bars(1), n -> x.bars(-1));
        call(36, "NONE: 1 (no PARISH); 3 (also: more than 5,000 LOTS); 5 (there is a WORLD).", -1, "15003353",
                n -> x.proof());
        call(37, "-1,000: 1 (HOUR; nothing was struck); 3; 6 (no WORLD).", -1000, "10663306", n -> x.part(2, true),
                n -> x.part(1, true), n -> x.part(24, true), n -> x.part(-1, false));
        call(38, "NONE: 1 (no PARISH); 3.", -1, "10003300", n -> x.nothing());
        call(39, "NONE: 1 (no PARISH).", -1, "10000000", n -> x.keep());
        call(40, "NONE: 1 (no PARISH); 2.", -1, "10000000", n -> x.quiet(0));
        numberOf(40, "NONE: 1 (no PARISH); 2.", -1, n -> x.quiet(-1), n -> x.quiet(100));
    }

    private static void others() {
        call(41, "NONE: 1; 2.", -1, "10000000", n -> x.strike(2, 1), n -> x.strike(24, 1), n -> x.strike(-1, 1),
                n -> x.strike(24, 100), n -> x.strike(-1, -1));
        numberOf(41, "NONE: 1; 2.", -1, n -> x.strike(2, 100), n -> x.strike(1, -1));
        call(42, "false: 1 (nothing was).", 0, "10000000", n -> bit(x.still(2)), n -> bit(x.still(1)),
                n -> bit(x.still(24)),
                n -> bit(x.still(-1)));
        call(43, "NONE: 1.", -1, "10000000", n -> x.struck(2), n -> x.struck(24), n -> x.struck(-1));
        call(44, "NONE: 1 (no PARISH); 3; 6 (there is none any more: CURSOR stays).", -1, "16663306", n -> x.seek());
        call(45, "NONE: 1; 3.", -1, "10013300", n -> x.lot(0, 0), n -> x.lot(-1, 0), n -> x.lot(20088, 0),
                n -> x.lot(0, 6),
                n -> x.lot(0, -1));
        call(46, "false: 1 (no PARISH).", 0, "10000000", n -> bit(x.again()));
        call(47, "-1: 1 (no PARISH).", -1, "10000000", n -> x.image());
        call(48, "false: 1 (no PARISH);", 0, "10000000", n -> bit(x.restore(0)));
        numberOf(48, "2 (it is none of this PARISH: a SPAN there isn't, but 0; CURSOR above 20,000).", 0,
                n -> bit(x.restore(-1)),
                n -> bit(x.restore(Long.MAX_VALUE)), n -> bit(x.restore(39L * 40 * 40 * 40 + 39)));
    }
}
