import java.util.ArrayList;
import java.util.Arrays;
import java.util.HashMap;
import java.util.HashSet;
import java.util.List;
import java.util.Map;
import java.util.NoSuchElementException;
import java.util.Set;
import java.util.TreeSet;
import java.util.function.IntPredicate;

/**
 * The document once more, written apart from the class and in another way (lists, maps, closures,
 * faults as exceptions, searches by trying all), to be asked the same calls.
 */
final class Model {
    private static final Set<String> KEPT = Set.of(("seats slack ask man yes no child kin cross raise hire lies"
            + " turns or and not over wet hired with firm wage trips number").split(" "));

    private static final class Fault extends RuntimeException {
        private static final long serialVersionUID = 1;
        final int kind;
        final int place;

        Fault(int kind, int place) {
            this.kind = kind;
            this.place = place;
        }
    }

    /** Sorts: w word, n number, s sign, e the end, x none. */
    private record Token(char sort, String text, int at) {
        boolean is(String other) {
            return (sort == 'w' || sort == 's') && text.equals(other);
        }

        boolean isName() {
            return sort == 'w' && !KEPT.contains(text);
        }
    }

    private static final class Def {
        int seats = 4;
        int slack = 0;
        final List<String> asks = new ArrayList<>();
        final List<String> men = new ArrayList<>();
        final List<Integer> wages = new ArrayList<>();
        final List<Map<Integer, Integer>> first = new ArrayList<>();
        final Map<Integer, Integer> parents = new HashMap<>();
        final Set<Set<Integer>> kin = new HashSet<>();
    }

    private static final class State {
        int[][] thinks;
        List<Map<Integer, Integer>> lies = new ArrayList<>();
        Set<Integer> over = new TreeSet<>();
        Set<Integer> hired = new TreeSet<>();
        Set<Integer> wet = new TreeSet<>();
        int[] trips;
        boolean boatFar;
        int raised;
        int coin;
        int crossings;

        State(Def def) {
            int men = def.men.size();
            thinks = new int[men][def.asks.size()];
            for (int m = 0; m < men; m++) {
                lies.add(new HashMap<>());
                for (Map.Entry<Integer, Integer> e : def.first.get(m).entrySet()) {
                    thinks[m][e.getKey()] = e.getValue();
                }
            }
            trips = new int[men];
            raised = def.asks.isEmpty() ? -1 : 0;
        }

        State(State o) {
            thinks = new int[o.thinks.length][];
            for (int m = 0; m < thinks.length; m++) {
                thinks[m] = o.thinks[m].clone();
                lies.add(new HashMap<>(o.lies.get(m)));
            }
            over.addAll(o.over);
            hired.addAll(o.hired);
            wet.addAll(o.wet);
            trips = o.trips.clone();
            boatFar = o.boatFar;
            raised = o.raised;
            coin = o.coin;
            crossings = o.crossings;
        }
    }

    private record Image(Def def, State state, IntPredicate said) { }

    private record Act(int kind, int who, int ask, int so) { }

    private String tape = "";
    private Def def = new Def();
    private State st = new State(def);
    private IntPredicate said;
    private final List<State> undos = new ArrayList<>();
    private final Image[] images = new Image[2];
    private int faultKind;
    private int[] fitEnds;
    private int[] mates = new int[0];
    private int[] logged;

    // the tape

    private List<Token> tokens;
    private int cursor;
    private int ones;

    int feed(int a, int b, int c, int d, int e) {
        if (tape.length() > 920) {
            return -1;
        }
        for (int n : new int[] {a, b, c, d, e}) {
            tape += "" + (char) (n >>> 24) + (char) (n >> 16 & 255) + (char) (n >> 8 & 255) + (char) (n & 255);
        }
        return tape.length();
    }

    boolean end(int n) {
        if (n < 0 || n > tape.length()) {
            return false;
        }
        tape = tape.substring(0, n);
        return true;
    }

    private void tokenize(int limit) {
        tokens = new ArrayList<>();
        cursor = 0;
        int i = 0;
        while (i < tape.length() && i < limit) {
            char c = tape.charAt(i);
            if (c == 32 || c == 10) {
                i++;
                continue;
            }
            int j = i;
            while (j < tape.length() && "abcdefghijklmnopqrstuvwxyz0123456789".indexOf(tape.charAt(j)) >= 0) {
                j++;
            }
            String run = tape.substring(i, j);
            if (j == i) {
                tokens.add(new Token(";<=>()".indexOf(c) >= 0 ? 's' : 'x', "" + c, i));
                j++;
            } else if (run.matches("[a-z]{1,7}")) {
                tokens.add(new Token('w', run, i));
            } else {
                tokens.add(new Token(run.matches("[0-9]{1,2}") ? 'n' : 'x', run, i));
            }
            i = j;
        }
        tokens.add(tape.length() > limit ? new Token('x', "", limit) : new Token('e', "", tape.length()));
        tape = "";
    }

    private Token peek() {
        return tokens.get(cursor);
    }

    private void need(boolean good, int kind) {
        if (!good) {
            throw new Fault(kind, peek().at());
        }
    }

    private int number(int least, int most) {
        need(peek().sort() == 'n', 1);
        int n = Integer.parseInt(peek().text());
        need(n >= least && n <= most, 2);
        cursor++;
        return n;
    }

    private void sign(String s) {
        need(peek().is(s), 1);
        cursor++;
    }

    private boolean yes() {
        need(peek().is("yes") || peek().is("no"), 1);
        return tokens.get(cursor++).is("yes");
    }

    /** Looks alone. */
    private int named(List<String> names) {
        need(peek().isName(), 1);
        need(names.contains(peek().text()), 3);
        return names.indexOf(peek().text());
    }

    // the texts

    int ferry() {
        tokenize(900);
        faultKind = 0;
        try {
            Def d = new Def();
            int lines = 0;
            Set<String> once = new HashSet<>();
            while (peek().sort() != 'e') {
                ferryLine(d, once);
                sign(";");
                lines++;
            }
            def = d;
            st = new State(d);
            said = null;
            undos.clear();
            return lines;
        } catch (Fault f) {
            faultKind = f.kind;
            return -1 - f.place;
        }
    }

    private void ferryLine(Def d, Set<String> once) {
        String word = peek().sort() == 'w' ? peek().text() : "";
        need(Set.of("seats", "slack", "ask", "man", "child", "kin").contains(word), 1);
        if (word.equals("seats") || word.equals("slack")) {
            need(once.add(word), 3);
        }
        need(!word.equals("ask") || d.asks.size() < 9, 4);
        need(!word.equals("man") || d.men.size() < 10, 4);
        cursor++;
        switch (word) {
            case "seats" -> d.seats = number(1, 8);
            case "slack" -> d.slack = number(0, 9);
            case "ask" -> d.asks.add(newName(d));
            case "man" -> manLine(d);
            case "child" -> {
                int child = named(d.men);
                need(!d.parents.containsKey(child), 3);
                cursor++;
                int other = named(d.men);
                need(child != other, 3);
                cursor++;
                d.parents.put(child, other);
            }
            default -> {
                int one = named(d.men);
                cursor++;
                int other = named(d.men);
                need(one != other && !d.kin.contains(Set.of(one, other)), 3);
                cursor++;
                d.kin.add(Set.of(one, other));
            }
        }
    }

    private String newName(Def d) {
        need(peek().isName(), 1);
        need(!d.asks.contains(peek().text()) && !d.men.contains(peek().text()), 3);
        return tokens.get(cursor++).text();
    }

    private void manLine(Def d) {
        d.men.add(newName(d));
        d.wages.add(number(0, 20));
        Map<Integer, Integer> opinions = new HashMap<>();
        d.first.add(opinions);
        while (!peek().is(";")) {
            int ask = named(d.asks);
            need(!opinions.containsKey(ask), 3);
            cursor++;
            int side = yes() ? 1 : -1;
            opinions.put(ask, side * number(1, 9));
        }
    }

    int log(int lives) {
        if (lives != 0 && lives != 1) {
            return -1000;
        }
        tokenize(400);
        faultKind = 0;
        List<Act> acts = new ArrayList<>();
        try {
            while (peek().sort() != 'e') {
                acts.add(logLine(acts.size()));
                sign(";");
            }
        } catch (Fault f) {
            faultKind = f.kind;
            return -2 - f.place;
        }
        State before = new State(st);
        int wrong = -1;
        int reason = 0;
        int good = 0;
        for (Act act : acts) {
            reason = act(act);
            if (reason != 0) {
                wrong = good;
                reason += 10 * act.kind;
                break;
            }
            good++;
        }
        logged = new int[] {reason, good, st.crossings - before.crossings, bits(st.over)};
        if (lives == 0) {
            st = before;
        } else {
            keep(before);
        }
        return wrong;
    }

    private Act logLine(int lines) {
        Token t = peek();
        boolean word = t.is("cross") || t.is("raise") || t.is("hire");
        int who = word ? -1 : named(def.men);
        need(lines < 40, 4);
        cursor++;
        if (t.is("raise")) {
            int ask = named(def.asks);
            cursor++;
            return new Act(1, -1, ask, 0);
        }
        if (t.is("hire")) {
            int m = named(def.men);
            cursor++;
            return new Act(2, m, -1, 0);
        }
        if (t.is("cross")) {
            Set<Integer> set = new TreeSet<>();
            do {
                int m = named(def.men);
                need(set.add(m), 3);
                cursor++;
            } while (!peek().is(";"));
            return new Act(0, bits(set), -1, 0);
        }
        need(peek().is("lies") || peek().is("turns"), 1);
        int kind = peek().is("lies") ? 3 : 4;
        cursor++;
        int ask = named(def.asks);
        cursor++;
        int side = yes() ? 1 : -1;
        return new Act(kind, who, ask, side * number(0, 9));
    }

    int sentence() {
        tokenize(200);
        faultKind = 0;
        ones = 0;
        try {
            IntPredicate p = cond(1);
            need(peek().sort() == 'e', 1);
            said = p;
            return ones;
        } catch (Fault f) {
            faultKind = f.kind;
            return -1 - f.place;
        }
    }

    private IntPredicate cond(int depth) {
        IntPredicate p = all(depth);
        while (peek().is("or")) {
            cursor++;
            p = p.or(all(depth));
        }
        return p;
    }

    private IntPredicate all(int depth) {
        IntPredicate p = one(depth);
        while (peek().is("and")) {
            cursor++;
            p = p.and(one(depth));
        }
        return p;
    }

    private IntPredicate one(int depth) {
        Token t = peek();
        need(t.is("(") || t.sort() == 'w' && Set.of("not", "over", "wet", "hired", "with", "yes", "no", "firm",
                "wage", "trips", "number").contains(t.text()), 1);
        need(ones < 20 && depth <= 8, 4);
        ones++;
        cursor++;
        switch (t.text()) {
            case "(": {
                IntPredicate p = cond(depth + 1);
                sign(")");
                return p;
            }
            case "not":
                return one(depth + 1).negate();
            case "over":
                return m -> st.over.contains(m);
            case "wet":
                return m -> st.wet.contains(m);
            case "hired":
                return m -> st.hired.contains(m);
            case "with": {
                int other = named(def.men);
                cursor++;
                return m -> st.over.contains(m) == st.over.contains(other);
            }
            case "yes":
            case "no": {
                int ask = named(def.asks);
                cursor++;
                return m -> t.is("yes") ? says(m, ask) > 0 : says(m, ask) < 0;
            }
            default:
                return measured(t);
        }
    }

    private IntPredicate measured(Token t) {
        Token sign = peek();
        need(sign.is("<") || sign.is("=") || sign.is(">"), 1);
        cursor++;
        int n = number(0, 99);
        return m -> {
            int v = switch (t.text()) {
                case "firm" -> st.raised < 0 ? 0 : Math.abs(says(m, st.raised));
                case "wage" -> def.wages.get(m);
                case "trips" -> st.trips[m];
                default -> m;
            };
            return sign.is("<") ? v < n : sign.is("=") ? v == n : v > n;
        };
    }

    int fault() {
        return faultKind;
    }

    // what is so

    private static int bits(Iterable<Integer> set) {
        int bits = 0;
        for (int m : set) {
            bits |= 1 << m;
        }
        return bits;
    }

    private static List<Integer> members(int set) {
        List<Integer> list = new ArrayList<>();
        for (int m = 0; m < 32; m++) {
            if ((set & 1 << m) != 0) {
                list.add(m);
            }
        }
        return list;
    }

    private int men() {
        return def.men.size();
    }

    private int asks() {
        return def.asks.size();
    }

    private boolean noMan(int m) {
        return m < 0 || m >= men();
    }

    private boolean noAsk(int a) {
        return a < 0 || a >= asks();
    }

    private boolean noSet(int set) {
        return set < 0 || set >= 1 << men();
    }

    private static void must(boolean good) {
        if (!good) {
            throw new NoSuchElementException();
        }
    }

    int man(int m, int what) {
        must(!noMan(m) && what >= 0 && what <= 7);
        return switch (what) {
            case 0 -> st.over.contains(m) ? 1 : 0;
            case 1 -> def.wages.get(m);
            case 2 -> st.hired.contains(m) ? 1 : 0;
            case 3 -> st.wet.contains(m) ? 1 : 0;
            case 4 -> def.parents.getOrDefault(m, -1);
            case 5 -> st.trips[m];
            case 6 -> {
                int kin = 0;
                for (Set<Integer> pair : def.kin) {
                    kin |= pair.contains(m) ? bits(pair) & ~(1 << m) : 0;
                }
                yield kin;
            }
            default -> bits(st.lies.get(m).keySet());
        };
    }

    int thinks(int m, int a) {
        must(!noMan(m) && !noAsk(a));
        return st.thinks[m][a];
    }

    private int alone(int m, int a) {
        return st.lies.get(m).getOrDefault(a, st.thinks[m][a]);
    }

    int says(int m, int a) {
        must(!noMan(m) && !noAsk(a));
        if (st.lies.get(m).containsKey(a)) {
            return st.lies.get(m).get(a);
        }
        Integer other = def.parents.get(m);
        if (other != null && st.over.contains(m) == st.over.contains(other)) {
            return alone(other, a);
        }
        return st.thinks[m][a];
    }

    int now(int what) {
        switch (what) {
            case 0:
                return st.boatFar ? 1 : 0;
            case 1:
                return st.raised;
            case 2:
                return st.coin;
            case 3:
                return st.crossings;
            case 4:
                return bits(st.over);
            case 5:
                return bits(st.wet);
            case 6: {
                int parted = 0;
                for (Set<Integer> pair : def.kin) {
                    List<Integer> two = new ArrayList<>(pair);
                    parted += st.over.contains(two.get(0)) != st.over.contains(two.get(1)) ? 1 : 0;
                }
                return parted;
            }
            case 7:
                return bits(st.hired);
            default:
                return -1;
        }
    }

    private boolean balances(int set, int ask) {
        return Math.abs(total(set, ask)) <= def.slack;
    }

    private int total(int set, int ask) {
        int total = 0;
        for (int m : members(set)) {
            total += st.hired.contains(m) ? 0 : says(m, ask);
        }
        return total;
    }

    private boolean foesIn(int set) {
        for (int i : members(set)) {
            for (int j : members(set)) {
                for (int a = 0; a < asks(); a++) {
                    for (int b = 0; b < asks(); b++) {
                        boolean firm = Math.min(Math.min(Math.abs(says(i, a)), Math.abs(says(j, a))),
                                Math.min(Math.abs(says(i, b)), Math.abs(says(j, b)))) >= 5;
                        if (firm && says(i, a) * says(j, a) < 0 && says(i, b) * says(j, b) > 0) {
                            return true;
                        }
                    }
                }
            }
        }
        return false;
    }

    int why(int set) {
        if (noSet(set)) {
            return -1;
        }
        for (int m : members(set)) {
            if (st.over.contains(m) != st.boatFar) {
                return 1;
            }
        }
        if (set == 0) {
            return 1;
        }
        if (members(set).size() > def.seats) {
            return 2;
        }
        if (st.raised < 0 || !balances(set, st.raised)) {
            return 3;
        }
        return foesIn(set) ? 4 : 0;
    }

    // acts

    private void keep(State before) {
        undos.add(before);
        if (undos.size() > 8) {
            undos.remove(0);
        }
    }

    /** Done, unless there is a reason not to. */
    private int act(Act act) {
        switch (act.kind) {
            case 0: {
                int why = why(act.who);
                if (why == 0) {
                    go(act.who);
                }
                return why;
            }
            case 1:
                if (st.raised == act.ask) {
                    return 1;
                }
                st.raised = act.ask;
                return 0;
            case 2:
                if (!st.hired.add(act.who)) {
                    return 1;
                }
                st.coin += def.wages.get(act.who);
                return 0;
            case 3:
                if (st.over.contains(act.who)) {
                    return 1;
                }
                if (says(act.who, act.ask) == act.so) {
                    return 2;
                }
                st.lies.get(act.who).put(act.ask, act.so);
                return 0;
            default:
                if (st.thinks[act.who][act.ask] == act.so) {
                    return 1;
                }
                st.thinks[act.who][act.ask] = act.so;
                for (int m = 0; m < men(); m++) {
                    if (st.trips[act.who] > 0 && st.over.contains(m) == st.over.contains(act.who)) {
                        st.wet.add(m);
                    }
                }
                return 0;
        }
    }

    private void go(int set) {
        st.boatFar = !st.boatFar;
        st.crossings++;
        for (int m : members(set)) {
            st.trips[m]++;
            st.hired.remove(m);
            if (st.boatFar) {
                st.over.add(m);
                st.lies.get(m).clear();
            } else {
                st.over.remove(m);
            }
        }
    }

    private int kept(Act act) {
        State before = new State(st);
        int reason = act(act);
        if (reason == 0) {
            keep(before);
        }
        return reason;
    }

    int cross(int set) {
        return noSet(set) ? -1 : kept(new Act(0, set, -1, 0));
    }

    int raise(int a) {
        return noAsk(a) ? -1 : kept(new Act(1, -1, a, 0));
    }

    int hire(int m) {
        return noMan(m) ? -1 : kept(new Act(2, m, -1, 0));
    }

    int lie(int m, int a, int so) {
        return noMan(m) || noAsk(a) || so < -9 || so > 9 ? -1 : kept(new Act(3, m, a, so));
    }

    int turn(int m, int a, int so) {
        return noMan(m) || noAsk(a) || so < -9 || so > 9 ? -1 : kept(new Act(4, m, a, so));
    }

    int undo() {
        if (undos.isEmpty()) {
            return -1;
        }
        st = undos.remove(undos.size() - 1);
        return undos.size();
    }

    // questions

    int sum(int set) {
        must(!noSet(set) && asks() > 0);
        return total(set, st.raised);
    }

    private List<Integer> crewList() {
        List<Integer> list = new ArrayList<>();
        for (int set = 0; set < 1 << men(); set++) {
            if (why(set) == 0) {
                list.add(set);
            }
        }
        return list;
    }

    private static int pick(List<Integer> list, int k) {
        return k == -1 ? list.size() : k >= 0 && k < list.size() ? list.get(k) : -1;
    }

    int crews(int k) {
        return pick(crewList(), k);
    }

    int largest() {
        int best = -1;
        for (int set : crewList()) {
            best = best < 0 || Integer.bitCount(set) > Integer.bitCount(best) ? set : best;
        }
        return best;
    }

    private int bank(boolean far) {
        int over = bits(st.over);
        return far ? over : (1 << men()) - 1 - over;
    }

    int stuck() {
        int here = bank(st.boatFar);
        for (int set : crewList()) {
            here &= ~set;
        }
        return here;
    }

    /** Sets that may be in the boat by all but where they are. */
    private List<Integer> boatloads(int ask) {
        List<Integer> list = new ArrayList<>();
        for (int set = 1; set < 1 << men(); set++) {
            if (Integer.bitCount(set) <= def.seats && balances(set, ask) && !foesIn(set)) {
                list.add(set);
            }
        }
        return list;
    }

    private int tripsFrom(int over, boolean far, List<Integer> loads) {
        int all = (1 << men()) - 1;
        Set<Integer> seen = new HashSet<>();
        Set<Integer> level = new HashSet<>(Set.of(over * 2 + (far ? 1 : 0)));
        for (int trips = 0; !level.isEmpty(); trips++) {
            Set<Integer> further = new HashSet<>();
            for (int s : level) {
                if (s / 2 == all) {
                    return trips;
                }
                int here = s % 2 == 1 ? s / 2 : all - s / 2;
                for (int load : loads) {
                    if ((load & here) == load) {
                        further.add((s / 2 ^ load) * 2 + 1 - s % 2);
                    }
                }
            }
            seen.addAll(level);
            further.removeAll(seen);
            level = further;
        }
        return -1;
    }

    int trips(int a) {
        return noAsk(a) ? -1 : tripsFrom(bits(st.over), st.boatFar, boatloads(a));
    }

    int next() {
        if (asks() == 0) {
            return -1;
        }
        List<Integer> loads = boatloads(st.raised);
        int over = bits(st.over);
        int fewest = tripsFrom(over, st.boatFar, loads);
        if (fewest <= 0) {
            return fewest;
        }
        for (int load : loads) {
            boolean here = (load & bank(st.boatFar)) == load;
            if (here && tripsFrom(over ^ load, !st.boatFar, loads) == fewest - 1) {
                return load;
            }
        }
        throw new IllegalStateException();
    }

    int best() {
        int best = -1;
        for (int a = asks() - 1; a >= 0; a--) {
            int n = trips(a);
            if (n >= 0 && (best < 0 || n <= trips(best))) {
                best = a;
            }
        }
        return best;
    }

    int easy() {
        int easy = 0;
        for (int a = 0; a < asks(); a++) {
            easy |= balances(bank(st.boatFar), a) ? 1 << a : 0;
        }
        return easy;
    }

    int changed(int set) {
        if (noSet(set) || asks() == 0 || balances(set, st.raised)) {
            return -1;
        }
        int changed = 0;
        for (int m : members(set)) {
            int total = 0;
            for (int o : members(set)) {
                total += st.hired.contains(o) ? 0 : o == m ? -says(o, st.raised) : says(o, st.raised);
            }
            changed |= Math.abs(total) <= def.slack ? 1 << m : 0;
        }
        return changed;
    }

    int fits(int m) {
        String bytes = tape;
        tape = "";
        if (noMan(m) || asks() == 0 || bytes.isEmpty() || bytes.length() > 40 || bytes.length() % 2 == 1) {
            return -1;
        }
        List<Integer> sets = new ArrayList<>();
        for (int i = 0; i < bytes.length(); i += 2) {
            sets.add(bytes.charAt(i) << 8 | bytes.charAt(i + 1));
        }
        for (int set : sets) {
            if (noSet(set)) {
                return -1;
            }
        }
        List<Integer> ways = new ArrayList<>();
        for (int v = -9; v <= 9; v++) {
            boolean good = true;
            for (int set : sets) {
                int total = 0;
                for (int o : members(set)) {
                    total += st.hired.contains(o) ? 0 : o == m ? v : says(o, st.raised);
                }
                good &= !members(set).contains(m) || Math.abs(total) <= def.slack;
            }
            if (good) {
                ways.add(v);
            }
        }
        if (!ways.isEmpty()) {
            fitEnds = new int[] {ways.get(0), ways.get(ways.size() - 1)};
        }
        return ways.size();
    }

    int fit(int what) {
        return fitEnds == null || what < 0 || what > 1 ? -101 : fitEnds[what];
    }

    int couples() {
        int men = men();
        int[] best = new int[men];
        Arrays.fill(best, men);
        tryCouples(new int[men], 0, best);
        mates = new int[10];
        Arrays.fill(mates, -1);
        int paired = 0;
        for (int m = 0; m < men; m++) {
            mates[m] = best[m] == men ? -1 : best[m];
            paired += best[m] == men ? 0 : 1;
        }
        return paired / 2;
    }

    /** Every way to pair, alone written as the number of men (so behind all others); 0 is open. */
    private void tryCouples(int[] ways, int m, int[] best) {
        int men = men();
        if (m == men) {
            int[] got = new int[men];
            for (int i = 0; i < men; i++) {
                got[i] = ways[i] - 1;
            }
            int more = pairs(got, men) - pairs(best, men);
            if (more > 0 || more == 0 && Arrays.compare(got, best) < 0) {
                System.arraycopy(got, 0, best, 0, men);
            }
            return;
        }
        if (ways[m] != 0) {
            tryCouples(ways, m + 1, best);
            return;
        }
        for (int j = m + 1; j < men; j++) {
            int pair = 1 << m | 1 << j;
            if (ways[j] == 0 && st.raised >= 0 && balances(pair, st.raised) && !foesIn(pair)) {
                ways[m] = j + 1;
                ways[j] = m + 1;
                tryCouples(ways, m + 1, best);
                ways[j] = 0;
            }
        }
        ways[m] = men + 1;
        tryCouples(ways, m + 1, best);
        ways[m] = 0;
    }

    private static int pairs(int[] ways, int alone) {
        int n = 0;
        for (int w : ways) {
            n += w == alone ? 0 : 1;
        }
        return n;
    }

    int couple(int m) {
        return noMan(m) || m >= mates.length ? -1 : mates[m];
    }

    int doubters(int set) {
        if (noSet(set) || asks() == 0) {
            return -1;
        }
        int best = -1;
        int[] bestKey = null;
        for (int some = 0; some < 1 << men(); some++) {
            if ((some & ~set) == 0 && (some & bits(st.hired)) == 0 && balances(set & ~some, st.raised)) {
                int wages = 0;
                for (int m : members(some)) {
                    wages += def.wages.get(m);
                }
                int[] key = {wages, Integer.bitCount(some), some};
                if (bestKey == null || Arrays.compare(key, bestKey) < 0) {
                    best = some;
                    bestKey = key;
                }
            }
        }
        return best;
    }

    int jokes(int set, int what) {
        must(!noSet(set) && asks() > 0 && (what == 0 || what == 1));
        Map<Integer, Long> ways = new HashMap<>(Map.of(0, 1L));
        long below = 1;
        for (int m : members(set)) {
            if (!st.hired.contains(m)) {
                Map<Integer, Long> then = new HashMap<>();
                for (Map.Entry<Integer, Long> e : ways.entrySet()) {
                    int v = e.getKey() + says(m, st.raised);
                    then.merge(v - 1, e.getValue(), Long::sum);
                    then.merge(v, 2 * e.getValue(), Long::sum);
                    then.merge(v + 1, e.getValue(), Long::sum);
                }
                ways = then;
                below *= 4;
            }
        }
        long above = 0;
        for (Map.Entry<Integer, Long> e : ways.entrySet()) {
            above += Math.abs(e.getKey()) <= def.slack ? e.getValue() : 0;
        }
        long a = above;
        long b = below;
        while (b != 0) {
            long r = a % b;
            a = b;
            b = r;
        }
        return (int) ((what == 0 ? above : below) / a);
    }

    int foes(int k) {
        List<Integer> list = new ArrayList<>();
        for (int i = 0; i < men(); i++) {
            for (int j = i + 1; j < men(); j++) {
                if (foesIn(1 << i | 1 << j)) {
                    list.add(10 * i + j);
                }
            }
        }
        return pick(list, k);
    }

    private int seed;

    private int draw(int n) {
        seed = seed * 1103515245 + 12345;
        return (seed >>> 8) % n;
    }

    private int drawTimes(int n, int from) {
        seed = from;
        int crossed = 0;
        for (int t = 0; t < n; t++) {
            Set<Integer> with = new TreeSet<>();
            for (int m : members(bank(st.boatFar))) {
                if (draw(2) == 0) {
                    with.add(m);
                }
            }
            if (act(new Act(0, bits(with), -1, 0)) == 0) {
                crossed++;
            } else {
                act(new Act(2, draw(men()), -1, 0));
            }
        }
        return crossed;
    }

    int drawn(int n, int from) {
        if (n < 1 || n > 40 || men() == 0) {
            return -1;
        }
        keep(new State(st));
        return drawTimes(n, from);
    }

    int odds(int m, int n, int from) {
        if (noMan(m) || n < 1 || n > 40) {
            return -1;
        }
        State before = st;
        int times = 0;
        for (int i = 0; i < n; i++) {
            st = new State(before);
            drawTimes(20, from + i);
            times += st.over.contains(m) ? 1 : 0;
        }
        st = before;
        return times;
    }

    int logged(int what) {
        return logged == null || what < 0 || what > 3 ? -1 : logged[what];
    }

    int said(int k) {
        if (said == null) {
            return -1;
        }
        List<Integer> list = new ArrayList<>();
        for (int m = 0; m < men(); m++) {
            if (said.test(m)) {
                list.add(m);
            }
        }
        return pick(list, k);
    }

    boolean image(int k) {
        if (k != 0 && k != 1) {
            return false;
        }
        images[k] = new Image(def, new State(st), said);
        return true;
    }

    boolean restore(int k) {
        if (k != 0 && k != 1 || images[k] == null) {
            return false;
        }
        def = images[k].def();
        st = new State(images[k].state());
        said = images[k].said();
        undos.clear();
        return true;
    }

    int count(int what) {
        return switch (what) {
            case 0 -> asks();
            case 1 -> men();
            case 2 -> def.seats;
            case 3 -> def.slack;
            case 4 -> def.kin.size();
            case 5 -> tape.length();
            default -> -1;
        };
    }

    List<String> askNames() {
        return def.asks;
    }

    List<String> manNames() {
        return def.men;
    }
}
