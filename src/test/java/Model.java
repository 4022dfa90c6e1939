import java.util.ArrayList;
import java.util.Arrays;
import java.util.HashMap;
import java.util.List;
import java.util.Map;
import java.util.NoSuchElementException;
import java.util.Set;
import java.util.TreeSet;

/**
 * The document written down a second time, as plainly as the words allow and without regard for time or room:
 * every question is answered from the list of all WORLDS by its definition. It shares no code with the class.
 */
final class Model {
    static final Set<String> RESERVED = new TreeSet<>(Arrays.asList("law", "person", "sexton", "apart", "born",
            "struck", "told", "offer", "habit", "nap", "away"));

    static final class Fault extends RuntimeException {
        private static final long serialVersionUID = 1L;
        final int number;
        final int place;

        Fault(int number, int place) {
            this.number = number;
            this.place = place;
        }
    }

    static final class Someone {
        String name;
        int bedFrom;
        int bedTo;
        int longFrom;
        int longTo;
        int habit = -1;
        int napFrom = 0;
        int napTo = 0;
        boolean away;
        /** b and l. */
        List<int[]> spans = new ArrayList<>();

        boolean asleep(int i, int hour) {
            if (away) {
                return false;
            }
            int b = spans.get(i)[0];
            int l = spans.get(i)[1];
            return hour >= b && hour <= b + l - 1 || hour >= napFrom && hour <= napTo - 1;
        }

        boolean awake(int i, int hour) {
            return !away && !asleep(i, hour);
        }

        int weight(int i) {
            return habit < 0 ? 1 : Math.max(1, 10 - Math.abs(spans.get(i)[0] - habit));
        }
    }

    static final class Told {
        int person;
        int from;
        int to;
    }

    /** One told text. */
    static final class State {
        int hours = -1;
        int beside;
        int off;
        List<Someone> people = new ArrayList<>();
        List<Set<Integer>> apart = new ArrayList<>();
        List<Integer> births = new ArrayList<>();
        Map<Integer, Integer> struck = new HashMap<>();
        List<Told> told = new ArrayList<>();
        List<Told> offers = new ArrayList<>();
        int sexton = -2;
        int[] said;
        int cursor;
    }

    String tape = "";
    State p;
    int trouble;
    int fault;
    int place;

    // ---- the text

    private String text;
    private int at;
    private int start;
    /** "" at the end, null where no TOKEN begins. */
    private String token;

    private void next() {
        while (at < text.length() && text.charAt(at) == ' ') {
            at++;
        }
        start = at;
        if (at == text.length()) {
            token = "";
            return;
        }
        java.util.regex.Matcher m = java.util.regex.Pattern.compile("[a-z]+|[0-9]+|;|,").matcher(text);
        m.region(at, text.length());
        if (!m.lookingAt()) {
            token = null;
            return;
        }
        token = m.group();
        if (token.matches("[a-z]{9,}|[0-9]{4,}")) {
            token = null;
        }
        at = m.end();
    }

    private boolean on(String form) {
        return token != null && token.matches(form);
    }

    private void want(String form) {
        if (!on(form)) {
            throw new Fault(1, start);
        }
        next();
    }

    private int whole(int least, int most) {
        if (!on("[0-9]+")) {
            throw new Fault(1, start);
        }
        int value = Integer.parseInt(token);
        if (value < least || value > most) {
            throw new Fault(4, start);
        }
        next();
        return value;
    }

    private String name() {
        if (!on("[a-z]+") || RESERVED.contains(token)) {
            throw new Fault(1, start);
        }
        return token;
    }

    private static int find(State s, String name) {
        for (int i = 0; i < s.people.size(); i++) {
            if (s.people.get(i).name.equals(name)) {
                return i;
            }
        }
        return -1;
    }

    private int known(State s) {
        int i = find(s, name());
        if (i < 0) {
            throw new Fault(2, start);
        }
        return i;
    }

    private static void room(int have, int most, int where) {
        if (have >= most) {
            throw new Fault(5, where);
        }
    }

    private Told watch(State s) {
        Told t = new Told();
        t.person = known(s);
        next();
        t.from = whole(0, 23);
        want("to");
        t.to = whole(t.from + 1, 24);
        return t;
    }

    private void line(State s) {
        int first = start;
        if (!on("law|person|sexton|apart|born|struck|told|offer")) {
            throw new Fault(1, start);
        }
        String sort = token;
        if (sort.equals("law")) {
            if (s.hours > 0) {
                throw new Fault(3, first);
            }
            next();
            want("hours");
            s.hours = whole(1, 24);
            want("beside");
            s.beside = whole(0, 9);
            want("off");
            s.off = whole(0, 3);
        } else if (sort.equals("person")) {
            room(s.people.size(), 6, first);
            next();
            person(s);
        } else if (sort.equals("sexton")) {
            if (s.sexton >= 0) {
                throw new Fault(3, first);
            }
            next();
            s.sexton = known(s);
            next();
        } else if (sort.equals("apart")) {
            room(s.apart.size(), 3, first);
            next();
            int one = known(s);
            next();
            want(",");
            int two = known(s);
            Set<Integer> pair = new TreeSet<>(Arrays.asList(one, two));
            if (one == two || s.apart.contains(pair)) {
                throw new Fault(3, start);
            }
            next();
            s.apart.add(pair);
        } else if (sort.equals("born")) {
            room(s.births.size(), 3, first);
            next();
            s.births.add(whole(0, 23));
        } else if (sort.equals("struck")) {
            room(s.struck.size(), 24, first);
            next();
            int where = start;
            int hour = whole(0, 23);
            if (s.struck.containsKey(hour)) {
                throw new Fault(3, where);
            }
            want("is");
            s.struck.put(hour, whole(0, 99));
        } else if (sort.equals("told")) {
            room(s.told.size(), 4, first);
            next();
            s.told.add(watch(s));
        } else {
            room(s.offers.size(), 6, first);
            next();
            s.offers.add(watch(s));
        }
    }

    private void person(State s) {
        Someone who = new Someone();
        who.name = name();
        if (find(s, who.name) >= 0) {
            throw new Fault(3, start);
        }
        next();
        want("bed");
        who.bedFrom = whole(0, 23);
        want("to");
        who.bedTo = whole(who.bedFrom, Math.min(23, who.bedFrom + 7));
        want("long");
        who.longFrom = whole(0, 12);
        want("to");
        who.longTo = whole(who.longFrom, Math.min(12, who.longFrom + 4));
        if (on("habit")) {
            next();
            who.habit = whole(0, 23);
        }
        if (on("nap")) {
            next();
            who.napFrom = whole(0, 23);
            want("to");
            who.napTo = whole(who.napFrom + 1, 24);
        }
        if (on("away")) {
            next();
            who.away = true;
        }
        s.people.add(who);
    }

    private State read(String what) {
        State s = new State();
        text = what;
        at = 0;
        next();
        line(s);
        while (on(";")) {
            next();
            line(s);
        }
        if (!on("")) {
            throw new Fault(1, start);
        }
        if (s.hours < 0 || s.people.isEmpty()) {
            throw new Fault(6, start);
        }
        s.struck.keySet().removeIf(hour -> hour >= s.hours);
        for (int i = 0; i < s.people.size(); i++) {
            Someone who = s.people.get(i);
            if (who.away) {
                who.spans.add(new int[] {0, 0});
                continue;
            }
            for (int b = who.bedFrom; b <= who.bedTo; b++) {
                for (int l = who.longFrom; l <= who.longTo; l++) {
                    who.spans.add(new int[] {b, l});
                    for (int hour : s.struck.keySet()) {
                        if (i == s.sexton && who.asleep(who.spans.size() - 1, hour)) {
                            who.spans.remove(who.spans.size() - 1);
                            break;
                        }
                    }
                }
            }
        }
        s.said = new int[s.people.size()];
        return s;
    }

    int feed(int a, int b, int c, int d, int e) {
        if (tape.length() + 20 > 900) {
            return -1;
        }
        StringBuilder more = new StringBuilder(tape);
        for (int n : new int[] {a, b, c, d, e}) {
            more.append((char) (n >>> 24)).append((char) (n >>> 16 & 255)).append((char) (n >>> 8 & 255))
                    .append((char) (n & 255));
        }
        tape = more.toString();
        return tape.length();
    }

    int parish(int n) {
        if (n < 0 || n > tape.length()) {
            return no(2);
        }
        String what = tape.substring(0, n);
        tape = "";
        fault = 0;
        try {
            p = read(what);
        } catch (Fault f) {
            fault = f.number;
            place = f.place;
            return no(4);
        }
        changed();
        return ok(p.people.size());
    }

    int where() {
        return trouble == 4 ? place : -1;
    }

    // ---- what is shared

    private int no(int number) {
        trouble = number;
        return -1;
    }

    private int ok(int value) {
        trouble = 0;
        return value;
    }

    private boolean person(int i) {
        return p != null && i >= 0 && i < p.people.size();
    }

    private boolean spanOf(int person, int i) {
        return person(person) && i >= 0 && i < p.people.get(person).spans.size();
    }

    private boolean hour(int h) {
        return p != null && h >= 0 && h < p.hours;
    }

    private long product() {
        long n = 1;
        for (Someone who : p.people) {
            n *= who.spans.size();
        }
        return n;
    }

    private List<int[]> allLots;
    private List<int[]> allWorlds;

    private void changed() {
        allLots = null;
        allWorlds = null;
    }

    private List<int[]> lotList() {
        if (allLots == null) {
            allLots = new ArrayList<>();
            allLots.add(new int[0]);
            for (Someone who : p.people) {
                List<int[]> longer = new ArrayList<>();
                for (int[] lot : allLots) {
                    for (int i = 0; i < who.spans.size(); i++) {
                        int[] more = Arrays.copyOf(lot, lot.length + 1);
                        more[lot.length] = i;
                        longer.add(more);
                    }
                }
                allLots = longer;
            }
        }
        return allLots;
    }

    private int due(int[] lot, int hour) {
        int n = 0;
        for (int i = 0; i < lot.length; i++) {
            if (p.people.get(i).awake(lot[i], hour)) {
                n++;
            }
        }
        for (int birth : p.births) {
            if (birth <= hour) {
                n++;
            }
        }
        return n;
    }

    private boolean agreesIn(int[] lot, int hour) {
        for (int more = 0; more <= p.beside; more++) {
            if (p.struck.get(hour) == due(lot, hour) + more) {
                return true;
            }
        }
        return false;
    }

    private boolean offIn(int[] lot, int hour) {
        int many = p.struck.get(hour);
        return many == due(lot, hour) - 1 || many == due(lot, hour) + p.beside + 1;
    }

    private boolean quarrelIn(int[] lot, int hour) {
        for (Set<Integer> pair : p.apart) {
            boolean all = true;
            for (int i : pair) {
                all &= p.people.get(i).asleep(lot[i], hour);
            }
            if (all) {
                return true;
            }
        }
        return false;
    }

    private boolean peaceful(int[] lot) {
        for (int h = 0; h < p.hours; h++) {
            if (quarrelIn(lot, h)) {
                return false;
            }
        }
        return true;
    }

    /** Whether it is a WORLD by the strokes of these HOURS alone. */
    private boolean worldBy(int[] lot, Iterable<Integer> hours) {
        if (!peaceful(lot)) {
            return false;
        }
        int offs = 0;
        for (int h : hours) {
            if (!agreesIn(lot, h)) {
                if (!offIn(lot, h)) {
                    return false;
                }
                offs++;
            }
        }
        return offs <= p.off;
    }

    private List<int[]> worldList() {
        if (allWorlds == null) {
            allWorlds = new ArrayList<>();
            for (int[] lot : lotList()) {
                if (worldBy(lot, p.struck.keySet())) {
                    allWorlds.add(lot);
                }
            }
        }
        return allWorlds;
    }

    private long weight(int[] lot) {
        long w = 1;
        for (int i = 0; i < lot.length; i++) {
            w *= p.people.get(i).weight(lot[i]);
        }
        return w;
    }

    /** 1, 3, or 0. */
    private int bar(boolean there) {
        return !there ? 1 : product() > 20000 ? 3 : 0;
    }

    private int barSome(boolean there) {
        int b = bar(there);
        return b == 0 && worldList().isEmpty() ? 6 : b;
    }

    private boolean isAwake(int[] lot, int person, int hour) {
        return p.people.get(person).awake(lot[person], hour);
    }

    // ---- spans

    int spans(int person) {
        return person(person) ? ok(p.people.get(person).spans.size()) : no(1);
    }

    int span(int person, int i, int what) {
        if (!spanOf(person, i) || what < 0 || what > 2) {
            return no(1);
        }
        Someone who = p.people.get(person);
        return ok(what == 2 ? who.weight(i) : who.spans.get(i)[what]);
    }

    int awake(int person, int i, int hour) {
        return spanOf(person, i) && hour(hour) ? ok(p.people.get(person).awake(i, hour) ? 1 : 0) : no(1);
    }

    long lots() {
        if (p == null) {
            return no(1);
        }
        ok(0);
        return product();
    }

    // ---- said

    boolean say(int person, int i) {
        if (!spanOf(person, i)) {
            no(1);
            return false;
        }
        p.said[person] = i;
        ok(0);
        return true;
    }

    int said(int person) {
        return person(person) && !p.people.get(person).spans.isEmpty() ? ok(p.said[person]) : no(1);
    }

    int strikes(int hour) {
        return !hour(hour) ? no(1) : product() == 0 ? no(5) : ok(due(p.said, hour));
    }

    private int wrongIn(int hour) {
        if (p.struck.containsKey(hour) && !agreesIn(p.said, hour)) {
            return 1;
        }
        return quarrelIn(p.said, hour) ? 2 : 0;
    }

    int judge() {
        if (p == null || product() == 0) {
            return no(p == null ? 1 : 5);
        }
        for (int h = 0; h < p.hours; h++) {
            if (wrongIn(h) != 0) {
                return ok(h);
            }
        }
        return ok(-2);
    }

    int why() {
        int h = judge();
        return h == -1 ? -1 : ok(h == -2 ? 0 : wrongIn(h));
    }

    int agrees() {
        if (p == null || product() == 0) {
            return no(p == null ? 1 : 5);
        }
        return ok(worldBy(p.said, p.struck.keySet()) ? 1 : 0);
    }

    // ---- worlds

    int worlds() {
        int b = bar(p != null);
        return b != 0 ? no(b) : ok(worldList().size());
    }

    int can() {
        int b = bar(p != null);
        return b != 0 ? no(b) : ok(worldList().isEmpty() ? 0 : 1);
    }

    int world(int i, int person) {
        int b = bar(person(person) && i >= 0);
        if (b != 0) {
            return no(b);
        }
        return i >= worldList().size() ? no(1) : ok(worldList().get(i)[person]);
    }

    long weights() {
        int b = bar(p != null);
        if (b != 0) {
            return no(b);
        }
        ok(0);
        return worldList().stream().mapToLong(this::weight).sum();
    }

    int having(int person, int i) {
        int b = bar(spanOf(person, i));
        return b != 0 ? no(b) : ok((int) worldList().stream().filter(w -> w[person] == i).count());
    }

    int times(int person, int hour) {
        int b = bar(person(person) && hour(hour));
        return b != 0 ? no(b) : ok((int) worldList().stream().filter(w -> isAwake(w, person, hour)).count());
    }

    private int sureOf(int person, int hour) {
        boolean all = worldList().stream().allMatch(w -> isAwake(w, person, hour));
        boolean none = worldList().stream().noneMatch(w -> isAwake(w, person, hour));
        return all ? 2 : none ? 0 : 1;
    }

    int sure(int person, int hour) {
        int b = barSome(person(person) && hour(hour));
        return b != 0 ? no(b) : ok(sureOf(person, hour));
    }

    int surely(int hour, boolean isAwake) {
        int b = barSome(hour(hour));
        if (b != 0) {
            return no(b);
        }
        int bits = 0;
        for (int i = 0; i < p.people.size(); i++) {
            if (sureOf(i, hour) == (isAwake ? 2 : 0)) {
                bits += 1 << i;
            }
        }
        return ok(bits);
    }

    int chance(int person, int hour) {
        int b = barSome(person(person) && hour(hour));
        if (b != 0) {
            return no(b);
        }
        long part = worldList().stream().filter(w -> isAwake(w, person, hour)).mapToLong(this::weight).sum();
        long all = worldList().stream().mapToLong(this::weight).sum();
        return ok((int) (part * 100 / all));
    }

    private int[] best() {
        int[] found = worldList().get(0);
        for (int[] w : worldList()) {
            if (weight(w) > weight(found)) {
                found = w;
            }
        }
        return found;
    }

    int likeliest(int person) {
        int b = barSome(person(person));
        return b != 0 ? no(b) : ok(best()[person]);
    }

    long greatest() {
        int b = barSome(p != null);
        if (b != 0) {
            return no(b);
        }
        ok(0);
        return weight(best());
    }

    int together(int person, int other) {
        int b = bar(person(person) && person(other) && person != other);
        if (b != 0) {
            return no(b);
        }
        int bits = 0;
        for (int h = 0; h < p.hours; h++) {
            for (int[] w : worldList()) {
                if (isAwake(w, person, h) && isAwake(w, other, h)) {
                    bits |= 1 << h;
                }
            }
        }
        return ok(bits);
    }

    long possible(int person) {
        int b = bar(person(person));
        if (b != 0) {
            return no(b);
        }
        ok(0);
        long bits = 0;
        for (int[] w : worldList()) {
            bits |= 1L << w[person];
        }
        return bits;
    }

    int hiding(int person, int hour) {
        int b = bar(person(person) && hour(hour));
        if (b != 0) {
            return no(b);
        }
        int bits = 0;
        for (int[] w : worldList()) {
            for (int i = 0; i < w.length; i++) {
                if (i != person && p.people.get(person).asleep(w[person], hour) && isAwake(w, i, hour)) {
                    bits |= 1 << i;
                }
            }
        }
        return ok(bits);
    }

    private int outermost(int person, boolean most, int what) {
        int b = barSome(person(person));
        if (b != 0) {
            return no(b);
        }
        java.util.stream.IntStream all = worldList().stream()
                .mapToInt(w -> p.people.get(person).spans.get(w[person])[what]);
        return ok(most ? all.max().getAsInt() : all.min().getAsInt());
    }

    int bed(int person, boolean most) {
        return outermost(person, most, 0);
    }

    int sleeps(int person, boolean most) {
        return outermost(person, most, 1);
    }

    // ---- asking, lies, proofs

    private int fewestAsked(int hour) {
        int found = -1;
        for (int bits = 0; bits < 1 << p.people.size(); bits++) {
            boolean tells = true;
            Map<List<Integer>, List<Object>> seen = new HashMap<>();
            for (int[] w : worldList()) {
                List<Integer> look = new ArrayList<>();
                List<Object> truth = new ArrayList<>();
                for (int i = 0; i < w.length; i++) {
                    if ((bits >> i & 1) == 1) {
                        look.add(w[i]);
                    }
                    truth.add(hour < 0 ? (Object) w[i] : (Object) isAwake(w, i, hour));
                }
                List<Object> other = seen.putIfAbsent(look, truth);
                tells &= other == null || other.equals(truth);
            }
            if (tells && (found < 0 || Integer.bitCount(bits) < Integer.bitCount(found))) {
                found = bits;
            }
        }
        return found;
    }

    int ask() {
        int b = barSome(p != null);
        if (b == 0 && worldList().size() > 400) {
            b = 3;
        }
        return b != 0 ? no(b) : ok(fewestAsked(-1));
    }

    int askFor(int hour) {
        int b = barSome(hour(hour));
        if (b == 0 && worldList().size() > 400) {
            b = 3;
        }
        return b != 0 ? no(b) : ok(fewestAsked(hour));
    }

    private boolean isSo(int[] lot, Told t) {
        for (int h = t.from; h < t.to && h < p.hours; h++) {
            if (!p.people.get(t.person).asleep(lot[t.person], h)) {
                return false;
            }
        }
        return true;
    }

    int lie(int told) {
        int b = bar(p != null && told >= 0 && told < p.told.size());
        return b != 0 ? no(b) : ok(worldList().stream().anyMatch(w -> isSo(w, p.told.get(told))) ? 0 : 1);
    }

    int bars(int told) {
        int lies = lie(told);
        if (lies != 1) {
            return lies == 0 ? ok(-2) : -1;
        }
        Told t = p.told.get(told);
        // with no strokes at all first: then it is nothing struck
        if (lotList().stream().noneMatch(lot -> isSo(lot, t) && peaceful(lot))) {
            return ok(-1000);
        }
        for (int h = 0; h < p.hours; h++) {
            List<Integer> upTo = new ArrayList<>();
            for (int k = 0; k <= h; k++) {
                if (p.struck.containsKey(k)) {
                    upTo.add(k);
                }
            }
            if (lotList().stream().noneMatch(lot -> isSo(lot, t) && worldBy(lot, upTo))) {
                return ok(h);
            }
        }
        throw new IllegalStateException("no hour bars a lie");
    }

    int proof() {
        if (p == null) {
            return no(1);
        }
        if (product() > 5000) {
            return no(3);
        }
        if (!worldList().isEmpty()) {
            return no(5);
        }
        List<Integer> all = new ArrayList<>(new TreeSet<>(p.struck.keySet()));
        for (int many = 0; many <= 3; many++) {
            for (int bits = 0; bits < 1 << all.size(); bits++) {
                if (Integer.bitCount(bits) == many) {
                    List<Integer> some = new ArrayList<>();
                    int answer = 0;
                    for (int k = 0; k < all.size(); k++) {
                        if ((bits >> k & 1) == 1) {
                            some.add(all.get(k));
                            answer |= 1 << all.get(k);
                        }
                    }
                    if (lotList().stream().noneMatch(lot -> worldBy(lot, some))) {
                        return ok(answer);
                    }
                }
            }
        }
        return ok(-2);
    }

    // ---- beside, nothing, keep, quiet

    int part(int hour, boolean most) {
        int b = barSome(hour(hour) && p.struck.containsKey(hour));
        if (b != 0) {
            no(b);
            return -1000;
        }
        java.util.stream.IntStream all = worldList().stream().mapToInt(w -> p.struck.get(hour) - due(w, hour));
        return ok(most ? all.max().getAsInt() : all.min().getAsInt());
    }

    int nothing() {
        int b = bar(p != null);
        if (b != 0) {
            return no(b);
        }
        int bits = 0;
        for (int[] lot : lotList()) {
            if (peaceful(lot)) {
                for (int h = 0; h < p.hours; h++) {
                    if (due(lot, h) == 0) {
                        bits |= 1 << h;
                    }
                }
            }
        }
        return ok(bits);
    }

    int keep() {
        if (p == null) {
            return no(1);
        }
        int found = -2;
        for (int bits = 0; bits < 1 << p.offers.size(); bits++) {
            boolean all = true;
            for (int h = 0; h < p.hours; h++) {
                boolean watched = false;
                for (int i = 0; i < p.offers.size(); i++) {
                    Told o = p.offers.get(i);
                    watched |= (bits >> i & 1) == 1 && h >= o.from && h < o.to;
                }
                all &= watched;
            }
            if (all && (found < 0 || Integer.bitCount(bits) < Integer.bitCount(found))) {
                found = bits;
            }
        }
        return ok(found);
    }

    int quiet(int k) {
        if (p == null) {
            return no(1);
        }
        if (k < 0 || k > 99) {
            return no(2);
        }
        int bits = 0;
        for (Map.Entry<Integer, Integer> e : p.struck.entrySet()) {
            if (e.getValue() <= k) {
                bits |= 1 << e.getKey();
            }
        }
        return ok(bits);
    }

    // ---- an hour more

    int strike(int hour, int many) {
        if (!hour(hour)) {
            return no(1);
        }
        if (many < 0 || many > 99) {
            return no(2);
        }
        p.struck.put(hour, many);
        allWorlds = null;
        return ok(p.struck.size());
    }

    boolean still(int hour) {
        if (!hour(hour) || !p.struck.containsKey(hour)) {
            no(1);
            return false;
        }
        p.struck.remove(hour);
        allWorlds = null;
        ok(0);
        return true;
    }

    int struck(int hour) {
        return !hour(hour) ? no(1) : ok(p.struck.getOrDefault(hour, -2));
    }

    // ---- one by one

    int seek() {
        int b = bar(p != null);
        if (b != 0) {
            return no(b);
        }
        for (int n = p.cursor; n < lotList().size(); n++) {
            if (worldBy(lotList().get(n), p.struck.keySet())) {
                p.cursor = n + 1;
                return ok(n);
            }
        }
        return no(6);
    }

    int lot(int number, int person) {
        if (!person(person) || number < 0 || number >= product()) {
            return no(1);
        }
        return product() > 20000 ? no(3) : ok(lotList().get(number)[person]);
    }

    boolean again() {
        if (p == null) {
            no(1);
            return false;
        }
        p.cursor = 0;
        ok(0);
        return true;
    }

    long image() {
        if (p == null) {
            return no(1);
        }
        ok(0);
        long image = p.cursor;
        for (int said : p.said) {
            image = image * 40 + said;
        }
        return image;
    }

    boolean restore(long image) {
        if (p == null) {
            no(1);
            return false;
        }
        int[] said = new int[p.people.size()];
        long rest = image;
        boolean fits = image >= 0;
        for (int i = said.length - 1; fits && i >= 0; i--) {
            said[i] = (int) (rest % 40);
            rest = rest / 40;
            fits = said[i] == 0 || said[i] < p.people.get(i).spans.size();
        }
        if (!fits || rest > 20000) {
            no(2);
            return false;
        }
        p.said = said;
        p.cursor = (int) rest;
        ok(0);
        return true;
    }

    int led(int i) {
        List<Integer> away = new ArrayList<>();
        for (int k = 0; p != null && k < p.people.size(); k++) {
            if (p.people.get(k).away) {
                away.add(k);
            }
        }
        if (i < 0 || i >= away.size()) {
            throw new NoSuchElementException();
        }
        return away.get(i);
    }

    int size(int what) {
        if (what < 0 || what > 9) {
            return -1;
        }
        if (what == 9) {
            return tape.length();
        }
        if (p == null) {
            return 0;
        }
        return new int[] {p.people.size(), p.apart.size(), p.births.size(), p.struck.size(), p.told.size(),
            p.offers.size(), p.hours, p.sexton, p.cursor}[what];
    }
}
