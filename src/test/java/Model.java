import java.util.ArrayDeque;
import java.util.ArrayList;
import java.util.Collections;
import java.util.HashMap;
import java.util.HashSet;
import java.util.List;
import java.util.Map;
import java.util.PriorityQueue;
import java.util.Set;
import java.util.regex.Matcher;
import java.util.regex.Pattern;

/**
 * The document once more, in the plainest way and with the Java library: states are lists of
 * codes, searches go forwards from the heap or along edges that were turned round one by one,
 * so that it shares no shortcut with the class.
 */
final class Model {
    private static final Pattern KITCHEN =
            Pattern.compile("((p[0-9][+-]|[lmkb][0-9]|[cs][0-9][0-9]);)+", Pattern.DOTALL);
    private static final Pattern STATEMENT = Pattern.compile("[^;]*;");

    private record Told(List<Integer> sizes, List<Integer> heap, int law, int limit, int kept, int burnt,
            int turnCost, int plateCost, List<int[]> sights, int spent, String letters, List<Integer> row) {
    }

    private record Turn(int i, int j) {
        int told() {
            return 10 * i + j;
        }
    }

    private List<Integer> sizes = new ArrayList<>();
    private List<Integer> heap = new ArrayList<>();
    private int law = 0;
    private int limit = 5;
    private int kept = 9;
    private int burnt = 0;
    private int turnCost = 1;
    private int plateCost = 0;
    private List<int[]> sights = new ArrayList<>();
    private int spent = 0;
    private String letters = "";
    private List<Integer> row = new ArrayList<>();
    private Told image = null;
    private final int[] refusals = new int[7];
    private Map<List<Integer>, Integer> leasts = null;

    private int refuse(int number) {
        refusals[-number]++;
        return number;
    }

    private Told all() {
        return new Told(new ArrayList<>(sizes), new ArrayList<>(heap), law, limit, kept, burnt, turnCost,
                plateCost, new ArrayList<>(sights), spent, letters, new ArrayList<>(row));
    }

    private void become(Told t) {
        sizes = new ArrayList<>(t.sizes());
        heap = new ArrayList<>(t.heap());
        law = t.law();
        limit = t.limit();
        kept = t.kept();
        burnt = t.burnt();
        turnCost = t.turnCost();
        plateCost = t.plateCost();
        sights = new ArrayList<>(t.sights());
        spent = t.spent();
        letters = t.letters();
        row = new ArrayList<>(t.row());
        leasts = null;
    }

    int letter(int c) {
        if (c < 0) {
            return refuse(-4);
        }
        if (c > 255 || letters.length() == 64) {
            return refuse(-6);
        }
        letters += (char) c;
        return letters.length();
    }

    int kitchen() {
        String text = letters;
        letters = "";
        for (int n = 1; n <= text.length(); n++) {
            Matcher m = KITCHEN.matcher(text.substring(0, n));
            if (!m.matches() && !m.hitEnd()) {
                return -1000 - (n - 1);
            }
        }
        if (!KITCHEN.matcher(text).matches()) {
            return -1000 - text.length();
        }
        Told was = all();
        Matcher m = STATEMENT.matcher(text);
        int many = 0;
        while (m.find()) {
            if (!obey(m.group())) {
                become(was);
                return -2000 - m.start();
            }
            many++;
        }
        leasts = null;
        return many;
    }

    private boolean obey(String s) {
        int a = s.charAt(1) - '0';
        int b = s.charAt(2) - '0';
        int n = sizes.size();
        switch (s.charAt(0)) {
            case 'p' -> {
                sizes.add(a);
                heap.add(s.charAt(2) == '-' ? n + 10 : n);
                return a != 0 && n < 5;
            }
            case 'l' -> {
                law = a;
                return a <= 4;
            }
            case 'm' -> {
                limit = a;
                return 1 <= a && a <= 5;
            }
            case 'k' -> {
                kept = a;
                return a == 9 || a < n;
            }
            case 'b' -> {
                burnt = a;
                return a <= 1;
            }
            case 'c' -> {
                turnCost = a;
                plateCost = b;
                return true;
            }
            default -> {
                sights.add(new int[] {a, b});
                return a < n && b < n && a != b && sights.size() <= 6;
            }
        }
    }

    private static int plate(int code) {
        return code % 10;
    }

    private static boolean isBurnt(int code) {
        return code >= 10;
    }

    int place(int place, int what) {
        if (place < 0 || place >= heap.size()) {
            return refuse(-1);
        }
        int code = heap.get(place);
        return switch (what) {
            case 0 -> plate(code);
            case 1 -> sizes.get(plate(code));
            case 2 -> isBurnt(code) ? 1 : 0;
            default -> refuse(-2);
        };
    }

    int law(int v) {
        if (v < 0 || v > 4) {
            return refuse(-2);
        }
        int was = law;
        law = v;
        leasts = null;
        return was;
    }

    private boolean isTurn(int i, int j) {
        return 0 <= i && i < j && j <= heap.size();
    }

    private boolean mayBe(List<Integer> s, Turn t) {
        boolean tops = t.i() == 0;
        boolean keeps = true;
        for (int code : s.subList(t.i(), t.j())) {
            keeps = keeps && plate(code) != kept;
        }
        boolean[] byKind = {tops, tops && t.j() <= limit, tops && keeps, true, (t.j() - t.i()) % 2 == 0};
        return byKind[law];
    }

    private List<Turn> turns() {
        List<Turn> list = new ArrayList<>();
        for (int i = 0; i <= heap.size(); i++) {
            for (int j = 0; j <= heap.size(); j++) {
                if (i < j) {
                    list.add(new Turn(i, j));
                }
            }
        }
        return list;
    }

    private List<Turn> lawful(List<Integer> s) {
        List<Turn> list = new ArrayList<>();
        for (Turn t : turns()) {
            if (mayBe(s, t)) {
                list.add(t);
            }
        }
        return list;
    }

    private static List<Integer> turned(List<Integer> s, Turn t) {
        List<Integer> other = new ArrayList<>(s.subList(0, t.i()));
        for (int k = t.j() - 1; k >= t.i(); k--) {
            other.add((s.get(k) + 10) % 20);
        }
        other.addAll(s.subList(t.j(), s.size()));
        return other;
    }

    private int cost(Turn t) {
        return turnCost + t.j() * plateCost;
    }

    int may(int i, int j) {
        if (!isTurn(i, j)) {
            return refuse(-1);
        }
        return mayBe(heap, new Turn(i, j)) ? 1 : 0;
    }

    int turn(int i, int j) {
        if (!isTurn(i, j)) {
            return refuse(-1);
        }
        Turn t = new Turn(i, j);
        if (!mayBe(heap, t)) {
            return refuse(-3);
        }
        heap = turned(heap, t);
        spent += cost(t);
        return cost(t);
    }

    private boolean ordered(List<Integer> s) {
        for (int a = 0; a < s.size(); a++) {
            if (burnt == 1 && isBurnt(s.get(a))) {
                return false;
            }
            for (int b = a + 1; b < s.size(); b++) {
                if (sizes.get(plate(s.get(a))) > sizes.get(plate(s.get(b)))) {
                    return false;
                }
            }
        }
        return true;
    }

    int inOrder() {
        return ordered(heap) ? 1 : 0;
    }

    private int gapsIn(List<Integer> s) {
        List<Integer> unlike = new ArrayList<>(new HashSet<>(sizes));
        unlike.add(99);
        Collections.sort(unlike);
        int many = 0;
        for (int k = 0; k < s.size(); k++) {
            boolean board = k == s.size() - 1;
            int a = unlike.indexOf(sizes.get(plate(s.get(k))));
            int b = unlike.indexOf(board ? Integer.valueOf(99) : sizes.get(plate(s.get(k + 1))));
            boolean fits = a == b || a == b + 1 || b == a + 1;
            boolean sameSide = isBurnt(s.get(k)) == (!board && isBurnt(s.get(k + 1)));
            if (!fits || burnt == 1 && !sameSide) {
                many++;
            }
        }
        return many;
    }

    int gaps() {
        return gapsIn(heap);
    }

    private List<List<Integer>> states() {
        List<List<Integer>> all = new ArrayList<>();
        for (List<Integer> order : orders()) {
            List<List<Integer>> sided = new ArrayList<>();
            sided.add(new ArrayList<>());
            for (int plate : order) {
                List<List<Integer>> longer = new ArrayList<>();
                for (List<Integer> s : sided) {
                    for (int code : new int[] {plate, plate + 10}) {
                        List<Integer> more = new ArrayList<>(s);
                        more.add(code);
                        longer.add(more);
                    }
                }
                sided = longer;
            }
            all.addAll(sided);
        }
        return all;
    }

    private List<List<Integer>> orders() {
        List<List<Integer>> all = new ArrayList<>();
        addOrders(new ArrayList<>(), all);
        return all;
    }

    private void addOrders(List<Integer> begun, List<List<Integer>> all) {
        if (begun.size() == heap.size()) {
            all.add(new ArrayList<>(begun));
            return;
        }
        for (int plate = 0; plate < heap.size(); plate++) {
            if (!begun.contains(plate)) {
                begun.add(plate);
                addOrders(begun, all);
                begun.remove(begun.size() - 1);
            }
        }
    }

    /** Of all states, along edges turned round. */
    private Map<List<Integer>, Integer> allLeasts() {
        if (leasts != null) {
            return leasts;
        }
        Map<List<Integer>, List<List<Integer>>> back = new HashMap<>();
        Map<List<Integer>, Integer> found = new HashMap<>();
        ArrayDeque<List<Integer>> queue = new ArrayDeque<>();
        for (List<Integer> s : states()) {
            for (Turn t : lawful(s)) {
                back.computeIfAbsent(turned(s, t), k -> new ArrayList<>()).add(s);
            }
            if (ordered(s)) {
                found.put(s, 0);
                queue.add(s);
            }
        }
        while (!queue.isEmpty()) {
            List<Integer> s = queue.poll();
            for (List<Integer> p : back.getOrDefault(s, List.of())) {
                if (!found.containsKey(p)) {
                    found.put(p, found.get(s) + 1);
                    queue.add(p);
                }
            }
        }
        leasts = found;
        return found;
    }

    /** Forwards from a state, by layers, with how many rows lead to each: {turns, rows}. */
    private int[] forwards(List<Integer> start) {
        Set<List<Integer>> seen = new HashSet<>();
        Map<List<Integer>, Integer> layer = new HashMap<>();
        layer.put(start, 1);
        for (int n = 0; !layer.isEmpty(); n++) {
            int rows = 0;
            for (List<Integer> s : layer.keySet()) {
                rows += ordered(s) ? layer.get(s) : 0;
            }
            if (rows > 0) {
                return new int[] {n, rows};
            }
            seen.addAll(layer.keySet());
            Map<List<Integer>, Integer> further = new HashMap<>();
            for (List<Integer> s : layer.keySet()) {
                for (Turn t : lawful(s)) {
                    List<Integer> o = turned(s, t);
                    if (!seen.contains(o)) {
                        further.merge(o, layer.get(s), Integer::sum);
                    }
                }
            }
            layer = further;
        }
        return new int[] {-9, 0};
    }

    int least() {
        return forwards(heap)[0];
    }

    int ways() {
        return forwards(heap)[1];
    }

    private record Paid(int cost, List<Integer> state) {
    }

    private int cheapestOf(List<Integer> start) {
        PriorityQueue<Paid> queue = new PriorityQueue<>((a, b) -> Integer.compare(a.cost(), b.cost()));
        Set<List<Integer>> closed = new HashSet<>();
        queue.add(new Paid(0, start));
        while (!queue.isEmpty()) {
            Paid p = queue.poll();
            if (!closed.add(p.state())) {
                continue;
            }
            if (ordered(p.state())) {
                return p.cost();
            }
            for (Turn t : lawful(p.state())) {
                queue.add(new Paid(p.cost() + cost(t), turned(p.state(), t)));
            }
        }
        return -9;
    }

    int cheapest() {
        return cheapestOf(heap);
    }

    int far(int n) {
        if (n < -1) {
            return refuse(-4);
        }
        if (n > 20) {
            return refuse(-6);
        }
        int many = 0;
        for (List<Integer> s : states()) {
            many += allLeasts().getOrDefault(s, -1) == n ? 1 : 0;
        }
        return many;
    }

    int worst(int place) {
        if (place < -1 || place >= heap.size()) {
            return refuse(-1);
        }
        if (heap.isEmpty()) {
            return refuse(-3);
        }
        int greatest = Collections.max(allLeasts().values());
        if (place == -1) {
            return greatest;
        }
        for (List<Integer> s : states()) {
            if (allLeasts().getOrDefault(s, -1) == greatest) {
                return s.get(place);
            }
        }
        throw new IllegalStateException();
    }

    int before(int n) {
        if (n < 0) {
            return refuse(-4);
        }
        if (n > 4) {
            return refuse(-6);
        }
        Set<List<Integer>> can = new HashSet<>();
        can.add(heap);
        List<List<Integer>> all = states();
        for (int k = 0; k < n; k++) {
            Set<List<Integer>> earlier = new HashSet<>();
            for (List<Integer> s : all) {
                for (Turn t : lawful(s)) {
                    if (can.contains(turned(s, t))) {
                        earlier.add(s);
                    }
                }
            }
            can = earlier;
        }
        return can.size();
    }

    private Turn advised(int kind, List<Integer> s) {
        if (ordered(s)) {
            return null;
        }
        Turn best = null;
        for (Turn t : lawful(s)) {
            List<Integer> o = turned(s, t);
            boolean better = switch (kind) {
                case 0 -> best == null;
                case 1 -> best == null || gapsIn(o) < gapsIn(turned(s, best));
                case 2 -> best == null && allLeasts().containsKey(s) && allLeasts().get(o) < allLeasts().get(s);
                case 3 -> best == null && cheapestOf(s) >= 0 && cost(t) + cheapestOf(o) == cheapestOf(s);
                default -> false;
            };
            best = better ? t : best;
        }
        return kind == 4 ? large(s) : best;
    }

    private Turn large(List<Integer> s) {
        for (int k = s.size() - 1; k >= 0; k--) {
            int q = k;
            for (int a = k - 1; a >= 0; a--) {
                if (sizes.get(plate(s.get(a))) > sizes.get(plate(s.get(q)))) {
                    q = a;
                }
            }
            if (q != k) {
                return new Turn(0, q == 0 ? k + 1 : q + 1);
            }
        }
        return null;
    }

    int next(int kind) {
        if (kind < 0 || kind > 4) {
            return refuse(-2);
        }
        Turn t = advised(kind, heap);
        return t == null ? -9 : t.told();
    }

    int rule(int kind) {
        if (kind < 0 || kind > 4) {
            return refuse(-2);
        }
        List<Integer> s = heap;
        int made = 0;
        while (!ordered(s)) {
            Turn t = advised(kind, s);
            if (t == null || made == 40) {
                return -9;
            }
            s = turned(s, t);
            made++;
        }
        return made;
    }

    int row(int v) {
        if (v < 0) {
            return refuse(-4);
        }
        if (v > 99 || row.size() == 8) {
            return refuse(-6);
        }
        row.add(v);
        return row.size();
    }

    int path() {
        List<Integer> plates = new ArrayList<>();
        for (int v : row) {
            plates.add(v < 20 ? plate(v) : -1);
        }
        Collections.sort(plates);
        for (int k = 0; k < Math.max(plates.size(), heap.size()); k++) {
            if (plates.size() != heap.size() || plates.get(k) != k) {
                return refuse(-3);
            }
        }
        List<Integer> end = row;
        row = new ArrayList<>();
        Set<List<Integer>> seen = new HashSet<>();
        List<List<Integer>> layer = List.of(heap);
        for (int n = 0; !layer.isEmpty(); n++) {
            List<List<Integer>> further = new ArrayList<>();
            for (List<Integer> s : layer) {
                if (s.equals(end)) {
                    return n;
                }
                for (Turn t : lawful(s)) {
                    List<Integer> o = turned(s, t);
                    if (seen.add(o)) {
                        further.add(o);
                    }
                }
            }
            layer = further;
        }
        return -9;
    }

    int judge() {
        List<Integer> told = row;
        row = new ArrayList<>();
        List<Integer> s = heap;
        for (int k = 0; k < told.size(); k++) {
            Turn t = new Turn(told.get(k) / 10, told.get(k) % 10);
            if (!isTurn(t.i(), t.j()) || !mayBe(s, t)) {
                return k;
            }
            s = turned(s, t);
        }
        return ordered(s) ? -9 : told.size();
    }

    private boolean arrangesAll(List<Turn> turns) {
        for (List<Integer> order : orders()) {
            boolean allowed = true;
            for (int[] sight : sights) {
                allowed = allowed && order.indexOf(sight[0]) < order.indexOf(sight[1]);
            }
            if (!allowed) {
                continue;
            }
            List<Integer> s = new ArrayList<>();
            for (int plate : order) {
                s.add(heap.contains(plate) ? plate : plate + 10);
            }
            for (Turn t : turns) {
                if (!mayBe(s, t)) {
                    return false;
                }
                s = turned(s, t);
            }
            if (!ordered(s)) {
                return false;
            }
        }
        return true;
    }

    int blind() {
        List<Turn> turns = new ArrayList<>();
        for (int v : row) {
            if (!isTurn(v / 10, v % 10)) {
                return refuse(-3);
            }
            turns.add(new Turn(v / 10, v % 10));
        }
        row = new ArrayList<>();
        return arrangesAll(turns) ? 1 : 0;
    }

    private List<Turn> longer(List<Turn> begun, int more) {
        if (more == 0) {
            return arrangesAll(begun) ? begun : null;
        }
        for (Turn t : turns()) {
            List<Turn> tried = new ArrayList<>(begun);
            tried.add(t);
            List<Turn> found = longer(tried, more - 1);
            if (found != null) {
                return found;
            }
        }
        return null;
    }

    int fewest(int i) {
        if (i < -1) {
            return refuse(-4);
        }
        for (int length = 0; length <= 3; length++) {
            List<Turn> found = longer(List.of(), length);
            if (found != null) {
                return i == -1 ? length : i < length ? found.get(i).told() : -9;
            }
        }
        return -9;
    }

    /** Sweeps till nothing changes. */
    int match() {
        Map<List<Integer>, Integer> verdict = new HashMap<>();
        List<List<Integer>> all = states();
        boolean changed = true;
        while (changed) {
            changed = false;
            for (List<Integer> s : all) {
                if (verdict.containsKey(s)) {
                    continue;
                }
                boolean canWin = false;
                boolean mustLose = true;
                if (!ordered(s)) {
                    for (Turn t : lawful(s)) {
                        Integer v = verdict.get(turned(s, t));
                        canWin = canWin || v != null && v == 0;
                        mustLose = mustLose && v != null && v == 1;
                    }
                }
                if (canWin || mustLose) {
                    verdict.put(s, canWin ? 1 : 0);
                    changed = true;
                }
            }
        }
        return verdict.getOrDefault(heap, 2);
    }

    int shuffled(int n, int z) {
        if (n < 0) {
            return refuse(-4);
        }
        if (n > 30) {
            return refuse(-6);
        }
        List<Integer> s = heap;
        long seed = z & 0xFFFFFFFFL;
        for (int k = 0; k < n; k++) {
            List<Turn> can = lawful(s);
            if (can.isEmpty()) {
                break;
            }
            seed = (seed * 1664525L + 1013904223L) % (1L << 32);
            s = turned(s, can.get((int) (seed % (1L << 31) / 256 % can.size())));
        }
        return forwards(s)[0];
    }

    int sights(int i, int what) {
        if (i < 0 || i >= sights.size()) {
            return refuse(-1);
        }
        if (what < 0 || what > 1) {
            return refuse(-2);
        }
        return sights.get(i)[what];
    }

    int image() {
        image = all();
        return heap.size();
    }

    int on() {
        if (image == null) {
            return refuse(-3);
        }
        become(image);
        return heap.size();
    }

    int count(int what) {
        return switch (what) {
            case 0 -> heap.size();
            case 1 -> sights.size();
            case 2 -> law;
            case 3 -> limit;
            case 4 -> kept;
            case 5 -> burnt;
            case 6 -> spent;
            case 7 -> row.size();
            case 8 -> letters.length();
            case 9 -> lawful(heap).size();
            case 11, 12, 13, 14, 15, 16 -> refusals[what - 10];
            default -> -9;
        };
    }
}
