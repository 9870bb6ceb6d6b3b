import java.util.ArrayList;
import java.util.HashMap;
import java.util.LinkedHashMap;
import java.util.List;
import java.util.Map;
import java.util.Set;
import java.util.TreeSet;

/** Which method calls which, how deep that goes, and which methods come back to themselves. */
final class CallDepth {
    private final Map<String, Set<String>> calls = new LinkedHashMap<>();
    private String now = "";

    void enter(String method) {
        now = method;
        calls.putIfAbsent(method, new TreeSet<>());
    }

    void call(String method) {
        calls.putIfAbsent(method, new TreeSet<>());
        calls.computeIfAbsent(now, name -> new TreeSet<>()).add(method);
    }

    private Set<String> reached(String from) {
        Set<String> all = new TreeSet<>();
        List<String> open = new ArrayList<>(calls.get(from));
        while (!open.isEmpty()) {
            String next = open.remove(open.size() - 1);
            if (all.add(next)) {
                open.addAll(calls.get(next));
            }
        }
        return all;
    }

    Set<String> recursive() {
        Set<String> back = new TreeSet<>();
        for (String method : calls.keySet()) {
            if (reached(method).contains(method)) {
                back.add(method);
            }
        }
        return back;
    }

    /** The longest chain of calls; methods that call one another stand in it once each. */
    int deepest() {
        Map<String, Set<String>> rings = new HashMap<>();
        for (String method : calls.keySet()) {
            Set<String> ring = new TreeSet<>(Set.of(method));
            for (String other : reached(method)) {
                if (reached(other).contains(method)) {
                    ring.add(other);
                }
            }
            rings.put(method, ring);
        }
        Map<Set<String>, Integer> known = new HashMap<>();
        return calls.keySet().stream().mapToInt(method -> below(rings.get(method), rings, known)).max().orElse(0);
    }

    private int below(Set<String> ring, Map<String, Set<String>> rings, Map<Set<String>, Integer> known) {
        if (known.containsKey(ring)) {
            return known.get(ring);
        }
        int most = 0;
        for (String method : ring) {
            for (String next : calls.get(method)) {
                if (!ring.contains(next)) {
                    most = Math.max(most, below(rings.get(next), rings, known));
                }
            }
        }
        known.put(ring, most + ring.size());
        return most + ring.size();
    }
}
