import java.util.ArrayList;
import java.util.HashMap;
import java.util.List;
import java.util.Map;

/** A law as a tree of functions, for PlainGlass. */
final class PlainLaw {
    /** The place of the first token that can't go on. */
    static final class Fault extends Exception {
        private static final long serialVersionUID = 1L;
        final int place;

        Fault(int place) {
            this.place = place;
        }
    }

    /** A sum or a test that is broken. */
    private static final class Broken extends RuntimeException {
        private static final long serialVersionUID = 1L;
    }

    static final class Asked extends HashMap<String, Integer> {
        private static final long serialVersionUID = 1L;
    }

    private interface Sum {
        long of(Map<String, Integer> asked);
    }

    private interface Test {
        boolean of(Map<String, Integer> asked);
    }

    private record Clause(String head, Sum sum, Test test) { }

    private static final List<String> PARTS =
        List.of("glass", "x", "y", "hour", "way", "body", "steps", "bright");

    private final List<Clause> clauses = new ArrayList<>();
    private final List<String> tokens = new ArrayList<>();
    private final List<Integer> places = new ArrayList<>();
    private int at = 0;
    private int parts = 0;
    private int depth = 0;

    private PlainLaw() {
    }

    static PlainLaw read(String text) throws Fault {
        PlainLaw law = new PlainLaw();
        for (int i = 0; i < text.length(); ) {
            int from = i++;
            for (String set : new String[] {"[a-z]", "[0-9]"}) {
                if (text.substring(from, from + 1).matches(set)) {
                    while (i < text.length() && text.substring(i, i + 1).matches(set)) {
                        i++;
                    }
                }
            }
            if (text.charAt(from) != ' ') {
                law.tokens.add(text.substring(from, i));
                law.places.add(from);
            }
        }
        law.tokens.add("");
        law.places.add(text.length());
        law.clause();
        while (law.eat(";")) {
            if (law.clauses.size() == 12) {
                throw law.fault();
            }
            law.clause();
        }
        if (!law.tokens.get(law.at).isEmpty()) {
            throw law.fault();
        }
        return law;
    }

    /** What the last clause with that head that holds tells (0 for one that tells nothing), or null. */
    Long told(String head, Asked asked) {
        Long told = null;
        for (Clause clause : clauses) {
            try {
                if (clause.head.equals(head) && (clause.test == null || clause.test.of(asked))) {
                    told = clause.sum == null ? 0L : clause.sum.of(asked);
                }
            } catch (Broken b) {
                continue;
            }
        }
        return told;
    }

    private Fault fault() {
        return new Fault(places.get(at));
    }

    private boolean eat(String token) {
        if (tokens.get(at).equals(token)) {
            at++;
            return true;
        }
        return false;
    }

    private void need(String token) throws Fault {
        if (!eat(token)) {
            throw fault();
        }
    }

    private void clause() throws Fault {
        String head = tokens.get(at);
        if (!List.of("late", "dust", "covers", "clear").contains(head)) {
            throw fault();
        }
        at++;
        Sum sum = head.length() == 4 ? sum() : null;
        Test test = eat("if") ? test() : null;
        clauses.add(new Clause(head, sum, test));
    }

    private Test test() throws Fault {
        Test left = both();
        while (eat("or")) {
            Test a = left;
            Test b = both();
            left = q -> a.of(q) || b.of(q);
        }
        return left;
    }

    private Test both() throws Fault {
        Test left = plain();
        while (eat("and")) {
            Test a = left;
            Test b = plain();
            left = q -> a.of(q) && b.of(q);
        }
        return left;
    }

    private Test plain() throws Fault {
        if (eat("not")) {
            Test a = plain();
            return q -> !a.of(q);
        }
        if (tokens.get(at).equals("(")) {
            open();
            Test a = test();
            close(")");
            return a;
        }
        Sum a = sum();
        String sign = tokens.get(at);
        if (!sign.equals("<") && !sign.equals(">") && !sign.equals("=")) {
            throw fault();
        }
        at++;
        Sum b = sum();
        return q -> {
            int order = Long.compare(a.of(q), b.of(q));
            return order == (sign.equals("<") ? -1 : sign.equals(">") ? 1 : 0);
        };
    }

    private void open() throws Fault {
        if (++depth > 8) {
            throw fault();
        }
        at++;
    }

    private void close(String bracket) throws Fault {
        need(bracket);
        depth--;
    }

    private static long whole(long number) {
        if (Math.abs(number) > 1000000000L) {
            throw new Broken();
        }
        return number;
    }

    private Sum sum() throws Fault {
        Sum left = term();
        while (tokens.get(at).equals("+") || tokens.get(at).equals("-")) {
            int sign = eat("+") ? 1 : -1;
            at += sign == -1 ? 1 : 0;
            Sum a = left;
            Sum b = term();
            left = q -> whole(a.of(q) + sign * b.of(q));
        }
        return left;
    }

    private Sum term() throws Fault {
        Sum left = part();
        while (tokens.get(at).equals("*") || tokens.get(at).equals("/")) {
            boolean times = tokens.get(at++).equals("*");
            Sum a = left;
            Sum b = part();
            left = q -> {
                long x = a.of(q);
                long y = b.of(q);
                if (!times && y == 0) {
                    throw new Broken();
                }
                return whole(times ? x * y : x / y);
            };
        }
        return left;
    }

    private Sum part() throws Fault {
        String token = tokens.get(at);
        if (token.equals("[")) {
            open();
            Sum a = sum();
            close("]");
            return a;
        }
        boolean number = token.matches("0*([0-9]{1,3}|1000)");
        if (!number && !PARTS.contains(token) || ++parts > 50) {
            throw fault();
        }
        at++;
        if (number) {
            long value = Long.parseLong(token.replaceFirst("^0+(?=.)", ""));
            return q -> value;
        }
        return q -> q.get(token);
    }
}
