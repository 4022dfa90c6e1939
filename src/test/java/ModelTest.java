import java.util.NoSuchElementException;
import java.util.Random;

/** Long runs of calls on random parishes and spoilt texts, answered by the class and by the model alike. */
public final class ModelTest {
    private static final String[] NAMES = {"a", "b", "ann", "bed", "to", "longname", "z", "hours"};
    private static final String[] SPOILS = {"law", "person", "away", "nap", "habit", "to", "is", ";", ",", "0",
        "24", "99", "100", "1000", "ninelette", "A", "hours", "struck", "q", "a", "apart", "007", "\t", "\u00ff"};

    private final Random r;
    private final StrikeAwake x = new StrikeAwake();
    private final Model m = new Model();
    private int calls = 0;
    private String run = "";
    private Model truth = null;

    private ModelTest(long seed) {
        r = new Random(seed);
        run = "seed " + seed + ": ";
    }

    private int in(int least, int most) {
        return least + r.nextInt(most - least + 1);
    }

    // ---- texts

    private String text(int spread, int most) {
        StringBuilder s = new StringBuilder();
        int hours = in(1, r.nextInt(3) == 0 ? 24 : 8);
        int people = in(1, most);
        String law = "law hours " + hours + " beside " + (r.nextBoolean() ? 0 : in(0, 3)) + " off "
                + (r.nextBoolean() ? 0 : in(0, 3));
        boolean lawFirst = r.nextInt(4) != 0;
        if (lawFirst) {
            s.append(law);
        }
        for (int i = 0; i < people; i++) {
            sep(s).append(person(NAMES[i], hours, spread));
        }
        if (!lawFirst) {
            sep(s).append(law);
        }
        if (people > 1 && r.nextBoolean()) {
            sep(s).append("apart ").append(NAMES[0]).append(",").append(NAMES[1]);
        }
        if (people > 2 && r.nextInt(3) == 0) {
            sep(s).append("apart ").append(NAMES[2]).append(" , ").append(NAMES[1]);
        }
        for (int i = in(0, 2); i > 0; i--) {
            sep(s).append("born ").append(r.nextBoolean() ? in(0, hours - 1) : in(0, 23));
        }
        choose(s.toString());
        int sexton = r.nextInt(3) == 0 ? in(0, people - 1) : -1;
        if (sexton >= 0) {
            sep(s).append("sexton ").append(NAMES[sexton]);
        }
        strokes(s, hours, sexton);
        for (int i = in(0, 4); i > 0; i--) {
            sep(s).append("told ").append(NAMES[in(0, people - 1)]).append(hours(hours));
        }
        for (int i = in(0, 6); i > 0; i--) {
            sep(s).append("offer ").append(NAMES[in(0, people - 1)]).append(hours(hours));
        }
        return s.length() > 900 ? text(spread, most) : s.toString();
    }

    /** Chooses a LOT that is as if true, so that much of what is struck can be. */
    private void choose(String text) {
        Model told = new Model();
        told.tape = text;
        told.parish(text.length());
        truth = told;
        for (int i = 0; i < told.p.people.size(); i++) {
            told.say(i, in(0, told.spans(i) - 1));
        }
    }

    private int strokeIn(int hour) {
        if (truth == null || truth.strikes(hour) < 0 || r.nextInt(12) == 0) {
            return in(0, 7);
        }
        int off = r.nextInt(8) == 0 ? in(-1, 1) : 0;
        return Math.max(0, truth.strikes(hour) + in(0, truth.p.beside) + off);
    }

    private void strokes(StringBuilder s, int hours, int sexton) {
        int odds = in(1, 4);
        for (int h = 0; h < 24; h++) {
            boolean seen = h >= hours || sexton < 0 || truth.awake(sexton, truth.p.said[sexton], h) == 1;
            if (r.nextInt(odds) == 0 && (h < hours || r.nextInt(6) == 0) && (seen || r.nextInt(12) == 0)) {
                sep(s).append("struck ").append(h).append(" is ").append(strokeIn(h));
            }
        }
    }

    /** As many LINES of each sort as there is room for. */
    private String fullText() {
        StringBuilder s = new StringBuilder("law hours 24 beside " + in(0, 2) + " off " + in(0, 3));
        for (int i = 0; i < 6; i++) {
            int bed = in(0, 22);
            int l = in(0, 8);
            sep(s).append("person ").append((char) ('a' + i)).append(" bed ").append(bed).append(" to ")
                    .append(bed + (i < 4 ? 1 : 0)).append(" long ").append(l).append(" to ").append(l + in(0, 1));
        }
        sep(s).append("apart a,b;apart c,b;apart a,c");
        for (int i = 0; i < 3; i++) {
            sep(s).append("born ").append(in(12, 23));
        }
        for (int h = 0; h < 24; h++) {
            sep(s).append("struck ").append(h).append(" is ").append(in(3, 6));
        }
        for (int i = 0; i < 10; i++) {
            sep(s).append(i < 4 ? "told " : "offer ").append((char) ('a' + in(0, 5))).append(hours(24));
        }
        return s.length() > 900 ? fullText() : s.toString();
    }

    private StringBuilder sep(StringBuilder s) {
        if (s.length() > 0) {
            s.append(r.nextInt(8) == 0 ? " ; " : ";");
        }
        return s;
    }

    private String hours(int hours) {
        int from = r.nextInt(5) == 0 ? in(0, 23) : in(0, hours - 1);
        int to = Math.min(24, from + in(1, 4));
        return " " + from + " to " + to;
    }

    private String person(String name, int hours, int spread) {
        int bed = r.nextInt(6) == 0 ? in(0, 23) : in(0, hours - 1);
        int l = r.nextInt(6) == 0 ? in(0, 12) : in(0, 4);
        String s = "person " + name + " bed " + bed + " to " + Math.min(23, bed + in(0, Math.min(7, spread)))
                + " long " + l + " to " + Math.min(12, l + in(0, Math.min(4, spread)));
        if (r.nextInt(2) == 0) {
            s += " habit " + in(0, 23);
        }
        if (r.nextInt(4) == 0) {
            s += " nap" + hours(hours);
        }
        if (r.nextInt(6) == 0) {
            s += " away";
        }
        return s;
    }

    private String spoilt(String text) {
        StringBuilder s = new StringBuilder(text);
        for (int n = in(1, 2); n > 0; n--) {
            String[] lines = s.toString().split(";");
            int at = in(0, s.length());
            switch (in(0, 5)) {
                case 0:
                    s.insert(at, " " + SPOILS[in(0, SPOILS.length - 1)] + " ");
                    break;
                case 1:
                    s.setLength(at);
                    break;
                case 2:
                    s.append(";").append(lines[in(0, lines.length - 1)]);
                    break;
                case 3:
                    s.replace(at, Math.min(s.length(), at + 1), String.valueOf((char) in(0, 255)));
                    break;
                case 4:
                    s.delete(at, Math.min(s.length(), at + in(1, 6)));
                    break;
                default:
                    String[] words = s.toString().split(" ");
                    words[in(0, words.length - 1)] = SPOILS[in(0, SPOILS.length - 1)];
                    s = new StringBuilder(String.join(" ", words));
                    break;
            }
        }
        return s.substring(0, Math.min(s.length(), 880));
    }

    // ---- calls

    private void same(String call, long want, long got) {
        calls++;
        Due.is(run + call, want, got);
        Due.is(run + call + " then trouble()", m.trouble, x.trouble());
        Due.is(run + call + " then where()", m.where(), x.where());
        Due.is(run + call + " then fault()", m.fault, x.fault());
    }

    private void same(String call, boolean want, boolean got) {
        same(call, want ? 1 : 0, got ? 1 : 0);
    }

    private void feedBoth(String text) {
        for (int at = 0; at < text.length(); at += 20) {
            int[] n = new int[5];
            for (int k = 0; k < 20; k++) {
                int sign = at + k < text.length() ? text.charAt(at + k) : ' ';
                n[k / 4] = n[k / 4] << 8 | sign & 255;
            }
            same("feed", m.feed(n[0], n[1], n[2], n[3], n[4]), x.feed(n[0], n[1], n[2], n[3], n[4]));
        }
    }

    private void tellBoth(String text) {
        run = run.substring(0, run.indexOf(':') + 1) + " " + text + " | ";
        feedBoth(text);
        same("parish", m.parish(text.length()), x.parish(text.length()));
        for (int what = -1; what <= 10; what++) {
            same("size(" + what + ")", m.size(what), x.size(what));
        }
    }

    private int some(int most) {
        return r.nextInt(40) == 0 ? (r.nextBoolean() ? Integer.MIN_VALUE : Integer.MAX_VALUE) : in(-1, most);
    }

    private int who() {
        return r.nextInt(8) == 0 ? some(6) : in(0, Math.max(0, m.size(0) - 1));
    }

    private int when() {
        return r.nextInt(12) == 0 ? some(24) : in(0, Math.max(0, m.size(6) - 1));
    }

    private int which(int person) {
        int spans = m.p == null || person < 0 || person >= m.p.people.size() ? 1 : m.p.people.get(person).spans.size();
        return r.nextInt(8) == 0 ? some(40) : in(0, Math.max(0, spans - 1));
    }

    private void ledBoth(int i) {
        int want = -7;
        int got = -7;
        try {
            want = m.led(i);
        } catch (NoSuchElementException e) {
            want = -8;
        }
        try {
            got = x.led(i);
        } catch (NoSuchElementException e) {
            got = -8;
        }
        same("led(" + i + ")", want, got);
    }

    private void call(int which) {
        int w = who();
        int h = when();
        int i = which(w);
        boolean b = r.nextBoolean();
        String args = "#" + which + "(" + w + "," + i + "," + h + "," + b + ")";
        switch (which) {
            case 0: same("spans" + args, m.spans(w), x.spans(w)); break;
            case 1: { int what = some(3); same("span" + args + what, m.span(w, i, what), x.span(w, i, what)); break; }
            case 2: same("awake" + args, m.awake(w, i, h), x.awake(w, i, h)); break;
            case 3: same("lots" + args, m.lots(), x.lots()); break;
            case 4: same("say" + args, m.say(w, i), x.say(w, i)); break;
            case 5: same("said" + args, m.said(w), x.said(w)); break;
            case 6: same("strikes" + args, m.strikes(h), x.strikes(h)); break;
            case 7: same("judge" + args, m.judge(), x.judge()); break;
            case 8: same("why" + args, m.why(), x.why()); break;
            case 9: same("agrees" + args, m.agrees(), x.agrees()); break;
            case 10: same("worlds" + args, m.worlds(), x.worlds()); break;
            case 11: same("can" + args, m.can(), x.can()); break;
            case 12: { int n = some(Math.max(3, m.worlds())); x.worlds();
                same("world" + n + args, m.world(n, w), x.world(n, w)); break; }
            case 13: same("weights" + args, m.weights(), x.weights()); break;
            case 14: same("having" + args, m.having(w, i), x.having(w, i)); break;
            case 15: same("times" + args, m.times(w, h), x.times(w, h)); break;
            case 16: same("sure" + args, m.sure(w, h), x.sure(w, h)); break;
            case 17: same("surely" + args, m.surely(h, b), x.surely(h, b)); break;
            case 18: same("chance" + args, m.chance(w, h), x.chance(w, h)); break;
            case 19: same("likeliest" + args, m.likeliest(w), x.likeliest(w)); break;
            case 20: same("greatest" + args, m.greatest(), x.greatest()); break;
            case 21: { int o = who(); same("together" + o + args, m.together(w, o), x.together(w, o)); break; }
            case 22: same("possible" + args, m.possible(w), x.possible(w)); break;
            case 23: same("hiding" + args, m.hiding(w, h), x.hiding(w, h)); break;
            case 24: same("bed" + args, m.bed(w, b), x.bed(w, b)); break;
            case 25: same("sleeps" + args, m.sleeps(w, b), x.sleeps(w, b)); break;
            case 26: same("ask" + args, m.ask(), x.ask()); break;
            case 27: same("askFor" + args, m.askFor(h), x.askFor(h)); break;
            case 28: { int t = r.nextInt(8) == 0 ? some(4) : in(0, 3); same("lie" + t + args, m.lie(t), x.lie(t)); break; }
            case 29: { int t = r.nextInt(8) == 0 ? some(4) : in(0, 3); same("bars" + t + args, m.bars(t), x.bars(t)); break; }
            case 30: same("proof" + args, m.proof(), x.proof()); break;
            case 31: same("part" + args, m.part(h, b), x.part(h, b)); break;
            case 32: same("nothing" + args, m.nothing(), x.nothing()); break;
            case 33: same("keep" + args, m.keep(), x.keep()); break;
            case 34: { int k = r.nextInt(3) == 0 ? in(-1, 100) : some(6);
                same("quiet" + k, m.quiet(k), x.quiet(k)); break; }
            case 35: { int k = r.nextInt(9) == 0 ? in(-1, 100) : h < 0 || h > 23 ? 1 : strokeIn(h);
                same("strike" + k + args, m.strike(h, k), x.strike(h, k)); break; }
            case 36: same("still" + args, m.still(h), x.still(h)); break;
            case 37: same("struck" + args, m.struck(h), x.struck(h)); break;
            case 38: same("seek" + args, m.seek(), x.seek()); break;
            case 39: { int n = m.p == null ? 0 : some((int) Math.min(30000, m.lots())); x.lots();
                if (m.p == null) { m.lots(); }
                same("lot" + n + args, m.lot(n, w), x.lot(n, w)); break; }
            case 40: same("again" + args, m.again(), x.again()); break;
            case 41: same("image" + args, m.image(), x.image()); break;
            case 42: { long n = image(); same("restore" + n, m.restore(n), x.restore(n)); break; }
            case 43: ledBoth(in(-1, 3)); break;
            case 44: { int what = some(11); same("size" + what, m.size(what), x.size(what)); break; }
            case 45: { int n = r.nextInt(2) == 0 ? some(900) : -1; if (n > m.tape.length() || n < 0) {
                same("parish" + n, m.parish(n), x.parish(n)); } break; }
            default: throw new IllegalStateException();
        }
    }

    private long image() {
        if (r.nextInt(12) == 0) {
            return r.nextLong();
        }
        if (m.p == null) {
            return in(-1, 100);
        }
        long n = r.nextInt(5) == 0 ? in(19999, 20001) : in(0, 40);
        for (int i = 0; i < m.p.people.size(); i++) {
            int spans = m.p.people.get(i).spans.size();
            n = n * 40 + (r.nextInt(12) == 0 ? in(0, Math.min(39, spans)) : in(0, Math.max(0, spans - 1)));
        }
        return n;
    }

    private void callAll(int many, boolean dear) {
        for (int n = 0; n < many; n++) {
            int which = in(0, 45);
            // the model's own proofs and bars take long where there is much
            if (!dear && (which == 26 || which == 27 || which == 29 || which == 30)) {
                continue;
            }
            call(which);
        }
    }

    public static void main(String[] args) {
        int runs = args.length > 1 ? Integer.parseInt(args[1]) : 400;
        long first = args.length > 2 ? Long.parseLong(args[2]) : 1;
        for (int n = 0; n < runs; n++) {
            ModelTest t = new ModelTest(first + n);
            if (t.r.nextInt(4) == 0) {
                t.callAll(20, true);
            }
            t.tellBoth(t.text(1, n % 3 == 0 ? 5 : 3));
            t.callAll(160, true);
            t.tellBoth(t.spoilt(t.text(1, 3)));
            t.callAll(20, true);
            t.tellBoth(t.text(3, 2));
            t.callAll(120, true);
        }
        for (int n = 0; n < 8 * runs; n++) {
            ModelTest t = new ModelTest(1_000_000 + first + n);
            for (int k = 0; k < 6; k++) {
                t.tellBoth(t.spoilt(t.text(3, 5)));
            }
        }
        for (int n = 0; n < runs / 8; n++) {
            ModelTest t = new ModelTest(2_000_000 + first + n);
            t.tellBoth(t.text(4, 3));
            t.callAll(60, t.m.lots() < 3000);
            t.tellBoth(t.text(7, 3));
            t.callAll(60, t.m.lots() < 3000);
            t.tellBoth(t.text(7, 6));
            t.callAll(60, t.m.lots() < 3000);
        }
        for (int n = 0; n < runs / 32; n++) {
            ModelTest t = new ModelTest(3_000_000 + first + n);
            t.tellBoth(t.fullText());
            t.call(30);
            t.callAll(100, t.m.worlds() > 0);
        }
        Due.end("ModelTest");
    }
}
