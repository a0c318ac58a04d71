import java.util.ArrayList;
import java.util.HashSet;
import java.util.List;
import java.util.Set;

/** Reads a text into clauses, straight from its bytes; stops with the first fault. */
final class NaiveText {
    static final class Fault extends RuntimeException {
        private static final long serialVersionUID = 1L;
        final int number;

        Fault(int place, int sort) {
            number = 1 + 8 * place + sort;
        }
    }

    private final List<Integer> bytes;
    private final int sort;
    private int at = 0;
    private int values = 0;

    NaiveText(List<Integer> bytes, int sort) {
        this.bytes = bytes;
        this.sort = sort;
    }

    private int peek() {
        while (at < bytes.size() && bytes.get(at) == 32) {
            at++;
        }
        return at < bytes.size() ? bytes.get(at) : -1;
    }

    private String run(int low, int high) {
        StringBuilder s = new StringBuilder();
        peek();
        for (int i = at; i < bytes.size() && bytes.get(i) >= low && bytes.get(i) <= high; i++) {
            s.append((char) bytes.get(i).intValue());
        }
        return s.toString();
    }

    private String word() {
        return run('a', 'z');
    }

    private boolean take(String word) {
        if (!word().equals(word)) {
            return false;
        }
        at += word.length();
        return true;
    }

    private boolean takeByte(char c) {
        if (peek() != c) {
            return false;
        }
        at++;
        return true;
    }

    private Fault fault(int kind) {
        peek();
        return new Fault(at, kind);
    }

    List<NaiveStars.Clause> read() {
        List<NaiveStars.Clause> all = new ArrayList<>();
        Set<String> once = new HashSet<>();
        do {
            List<String> heads = List.of(List.of("bright", "noise"), List.of("beat", "long", "least", "line"),
                List.of("world", "pair", "spot", "glass", "chance")).get(sort);
            String head = word();
            if (!heads.contains(head)) {
                throw fault(0);
            }
            if (all.size() == 12 || once.contains(head)) {
                throw fault(4);
            }
            if (sort == 1 || head.equals("noise")) {
                once.add(head);
            }
            take(head);
            all.add(clause(head));
            if (peek() == -1) {
                return all;
            }
        } while (takeByte(';'));
        throw fault(0);
    }

    private NaiveStars.Clause clause(String head) {
        switch (head + sort) {
            case "noise0":
                return numbers(head, 1, 0, 9999);
            case "beat1":
                return numbers(head, 2, 2, 200);
            case "long1":
                return numbers(head, 2, 1, 10);
            case "least1":
                return numbers(head, 1, 1, 99);
            case "line1":
                return numbers(head, 1, 0, 99999);
            default:
                NaiveStars.Sum sum = sum();
                NaiveStars.Test test = take("if") ? test(0) : null;
                return new NaiveStars.Clause(head, sum, test, 0, 0);
        }
    }

    private NaiveStars.Clause numbers(String head, int many, int least, int most) {
        int a = number(least, most);
        int b = many == 2 ? number(a, most) : 0;
        return new NaiveStars.Clause(head, null, null, a, b);
    }

    private int number(int least, int most) {
        String digits = run('0', '9');
        if (digits.isEmpty()) {
            throw fault(0);
        }
        if (digits.length() > 5 || Integer.parseInt(digits) < least || Integer.parseInt(digits) > most) {
            throw fault(1);
        }
        at += digits.length();
        return Integer.parseInt(digits);
    }

    private NaiveStars.Test test(int depth) {
        NaiveStars.Test left = part(depth);
        while (take("or")) {
            NaiveStars.Test a = left;
            NaiveStars.Test b = part(depth);
            left = w -> a.of(w) || b.of(w);
        }
        return left;
    }

    private NaiveStars.Test part(int depth) {
        NaiveStars.Test left = fact(depth);
        while (take("and")) {
            NaiveStars.Test a = left;
            NaiveStars.Test b = fact(depth);
            left = w -> a.of(w) && b.of(w);
        }
        return left;
    }

    private NaiveStars.Test fact(int depth) {
        if ((word().equals("not") || peek() == '[') && depth == 10) {
            throw fault(2);
        }
        if (take("not")) {
            NaiveStars.Test t = fact(depth + 1);
            return w -> !t.of(w);
        }
        if (takeByte('[')) {
            NaiveStars.Test t = test(depth + 1);
            if (!takeByte(']')) {
                throw fault(0);
            }
            return t;
        }
        NaiveStars.Sum a = sum();
        int sign = peek();
        if (sign != '<' && sign != '>' && sign != '=') {
            throw fault(0);
        }
        oneMore();
        at++;
        boolean equal = sign == '=' || at < bytes.size() && bytes.get(at) == '=';
        if (equal && sign != '=') {
            at++;
        }
        NaiveStars.Sum b = sum();
        return w -> {
            int c = Long.compare(a.of(w), b.of(w));
            return c == 0 ? equal : sign == '<' && c < 0 || sign == '>' && c > 0;
        };
    }

    private void oneMore() {
        if (values == 60) {
            throw fault(3);
        }
        values++;
    }

    private NaiveStars.Sum sum() {
        NaiveStars.Sum left = term();
        while (true) {
            NaiveStars.Sum a = left;
            if (takeByte('+')) {
                NaiveStars.Sum b = term();
                left = w -> a.of(w) + b.of(w);
            } else if (takeByte('-')) {
                NaiveStars.Sum b = term();
                left = w -> a.of(w) - b.of(w);
            } else {
                return left;
            }
        }
    }

    private NaiveStars.Sum term() {
        NaiveStars.Sum left = value();
        while (true) {
            NaiveStars.Sum a = left;
            if (takeByte('*')) {
                NaiveStars.Sum b = value();
                left = w -> a.of(w) * b.of(w);
            } else if (takeByte('/')) {
                NaiveStars.Sum b = value();
                left = w -> b.of(w) == 0 ? 0 : a.of(w) / b.of(w);
            } else {
                return left;
            }
        }
    }

    private NaiveStars.Sum value() {
        String digits = run('0', '9');
        if (!digits.isEmpty()) {
            if (digits.length() > 5) {
                throw fault(1);
            }
            oneMore();
            at += digits.length();
            long n = Long.parseLong(digits);
            return w -> n;
        }
        List<String> words = sort == 0 ? List.of("hour", "season", "star", "cell", "size")
            : List.of("beat", "long", "deep", "score", "dips", "odd", "shape", "same", "late", "size");
        String word = word();
        if (!words.contains(word)) {
            throw fault(0);
        }
        oneMore();
        take(word);
        return w -> w.get(word);
    }
}
