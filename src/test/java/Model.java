import java.util.ArrayList;
import java.util.Comparator;
import java.util.HashMap;
import java.util.List;
import java.util.Map;
import java.util.TreeMap;

/** The document once more, in other ways than the program's: maps, a sort, and all ways tried. */
final class Model {
    private record Act(int number, int kind, int a, int b, int valid, int known) {
    }

    private final List<Act> acts = new ArrayList<>();
    private int now = 0;
    private int refused = 0;

    int event(int kind, int a, int b, int valid) {
        if (acts.size() == 80 || noTime(valid) || !fits(kind, a, b)) {
            refused++;
            return -1;
        }
        acts.add(new Act(acts.size(), kind, a, b, valid, now));
        return acts.size() - 1;
    }

    private boolean fits(int kind, int a, int b) {
        int[] lowB = {0, 0, 0, -1000000, 1, 0};
        int[] highB = {99, 0, 5, 1000000, 1000, 0};
        int[] manyA = {20, 20, 10, 10, 10, acts.size()};
        if (kind < 0 || kind > 5 || a < 0 || a >= manyA[kind]) {
            return false;
        }
        return b >= lowB[kind] && b <= highB[kind] && !(kind == 5 && acts.get(a).kind() == 5);
    }

    boolean known(int time) {
        if (time < now || time > 10000) {
            refused++;
            return false;
        }
        now = time;
        return true;
    }

    private static boolean noTime(int time) {
        return time < 0 || time > 10000;
    }

    private boolean isVoid(Act act, int known) {
        return acts.stream().anyMatch(v -> v.kind() == 5 && v.a() == act.number() && v.known() <= known);
    }

    private List<Act> asOf(int time, int known) {
        List<Act> out = new ArrayList<>(acts);
        out.removeIf(e -> e.kind() == 5 || e.valid() > time || e.known() > known || isVoid(e, known));
        out.sort(Comparator.comparingInt(Act::valid).thenComparingInt(Act::kind).thenComparingInt(Act::number));
        return out;
    }

    private TreeMap<Integer, Integer> lying(int time, int known) {
        TreeMap<Integer, Integer> slotOfBox = new TreeMap<>();
        for (Act e : asOf(time, known)) {
            if (e.kind() == 0 && !slotOfBox.containsValue(e.b())) {
                slotOfBox.put(e.a(), e.b());
            } else if (e.kind() == 1) {
                slotOfBox.remove(e.a());
            }
        }
        return slotOfBox;
    }

    private static void check(int number, int bound, int... times) {
        boolean bad = number < 0 || number >= bound;
        for (int time : times) {
            bad |= noTime(time);
        }
        if (bad) {
            throw new IllegalArgumentException();
        }
    }

    int place(int box, int time, int known) {
        check(box, 20, time, known);
        return lying(time, known).getOrDefault(box, -1);
    }

    int at(int slot, int time, int known) {
        check(slot, 100, time, known);
        for (Map.Entry<Integer, Integer> e : lying(time, known).entrySet()) {
            if (e.getValue() == slot) {
                return e.getKey();
            }
        }
        return -1;
    }

    int state(int declaration, int time, int known) {
        check(declaration, 10, time, known);
        return asOf(time, known).stream().filter(e -> e.kind() == 2 && e.a() == declaration)
            .mapToInt(Act::b).max().orElse(0);
    }

    int sum(int declaration, int time, int known) {
        check(declaration, 10, time, known);
        return asOf(time, known).stream().filter(e -> e.kind() == 3 && e.a() == declaration)
            .mapToInt(Act::b).sum();
    }

    int quota(int asker, int time, int known) {
        check(asker, 10, time, known);
        TreeMap<Integer, List<Act>> byTime = new TreeMap<>();
        for (Act e : asOf(time, known)) {
            if (e.kind() == 4) {
                byTime.computeIfAbsent(e.valid(), t -> new ArrayList<>()).add(e);
            }
        }
        Map<Integer, Integer> has = new HashMap<>();
        long left = 1000;
        for (List<Act> asks : byTime.values()) {
            long wanted = asks.stream().mapToLong(Act::b).sum();
            long before = left;
            int[] part = new int[asks.size()];
            for (int i = 0; i < part.length; i++) {
                int want = asks.get(i).b();
                part[i] = wanted <= before ? want : (int) (want * before / wanted);
                left -= part[i];
            }
            for (int i = 0; i < part.length; i++) {
                if (wanted > before && left > 0 && part[i] < asks.get(i).b()) {
                    part[i]++;
                    left--;
                }
                has.merge(asks.get(i).a(), part[i], Integer::sum);
            }
        }
        return has.getOrDefault(asker, 0);
    }

    private static int distance(int s, int t) {
        return Math.abs(s / 10 - t / 10) + Math.abs(s % 10 - t % 10);
    }

    int apart(int box, int other, int time, int known) {
        check(box, 20, time, known);
        check(other, 20);
        TreeMap<Integer, Integer> lying = lying(time, known);
        if (!lying.containsKey(box) || !lying.containsKey(other)) {
            return -1;
        }
        return distance(lying.get(box), lying.get(other));
    }

    int least(int time, int known) {
        check(0, 1, time, known);
        List<Integer> slots = new ArrayList<>(lying(time, known).values());
        return slots.size() > 6 ? -1 : tryAll(slots, 0, new boolean[slots.size()]);
    }

    private static int tryAll(List<Integer> slots, int box, boolean[] taken) {
        if (box == slots.size()) {
            return 0;
        }
        int best = Integer.MAX_VALUE;
        for (int slot = 0; slot < taken.length; slot++) {
            if (!taken[slot]) {
                taken[slot] = true;
                best = Math.min(best, distance(slots.get(box), slot) + tryAll(slots, box + 1, taken));
                taken[slot] = false;
            }
        }
        return best;
    }

    int look(int act, int what) {
        if (act < 0 || act >= acts.size() || what < 0 || what > 5) {
            throw new IndexOutOfBoundsException();
        }
        Act e = acts.get(act);
        int[] all = {e.kind(), e.a(), e.b(), e.valid(), e.known(), isVoid(e, now) ? 1 : 0};
        return all[what];
    }

    int changed(int time, int known, int other) {
        check(0, 1, time, known, other);
        int differ = 0;
        for (int box = 0; box < 20; box++) {
            differ += place(box, time, known) != place(box, time, other) ? 1 : 0;
        }
        for (int d = 0; d < 10; d++) {
            boolean alike = state(d, time, known) == state(d, time, other)
                && sum(d, time, known) == sum(d, time, other);
            differ += alike ? 0 : 1;
        }
        return differ;
    }

    int count(int what) {
        int voids = (int) acts.stream().filter(e -> isVoid(e, now)).count();
        int[] all = {acts.size(), now, refused, voids};
        return what < 0 || what > 3 ? -1 : all[what];
    }
}
