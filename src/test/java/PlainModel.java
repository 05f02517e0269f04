import java.util.ArrayList;
import java.util.List;
import java.util.NoSuchElementException;
import java.util.function.IntUnaryOperator;

/** The document's words taken literally: words written out bit by bit, and everything counted on them. */
final class PlainModel {
    // Above any head (60 + 61 * 60) and a whole round of rings (60 * 60) of a new word.
    private static final int SETTLED = 4000;
    private static final int WRITTEN = SETTLED + 3600 + 60;
    // Long enough for the smallest difference of two RATES to use up any lead.
    private static final int HORIZON = 1000000;

    private record Form(String head, String ring) {
        int bit(int tick) {
            int place = tick - head.length();
            return (place < 0 ? head.charAt(tick) : ring.charAt(place % ring.length())) - '0';
        }

        boolean endless() {
            return ring.indexOf('1') >= 0;
        }
    }

    private final List<Form> forms = new ArrayList<>();

    private Form find(int a) {
        return a >= 0 && a < forms.size() ? forms.get(a) : null;
    }

    private int keep(Form form) {
        if (form == null) {
            return -1;
        }
        forms.add(form);
        return forms.size() - 1;
    }

    private static Form formOf(IntUnaryOperator bitAt) {
        int[] bits = new int[WRITTEN];
        for (int i = 0; i < WRITTEN; i++) {
            bits[i] = bitAt.applyAsInt(i);
        }
        for (int ring = 1; ring <= 60; ring++) {
            int head = WRITTEN - ring;
            while (head > 0 && bits[head - 1] == bits[head - 1 + ring]) {
                head--;
            }
            if (head <= SETTLED) {
                return head > 60 ? null : new Form(text(bits, 0, head), text(bits, head, head + ring));
            }
        }
        return null;
    }

    private static String text(int[] bits, int from, int to) {
        StringBuilder text = new StringBuilder();
        for (int i = from; i < to; i++) {
            text.append(bits[i]);
        }
        return text.toString();
    }

    int word(int head, int headBits, int ring, int ringBits) {
        if (head < 0 || head > 30 || ring < 1 || ring > 30 || forms.size() == 40) {
            return -1;
        }
        return keep(formOf(t -> t < head ? headBits >> t & 1 : ringBits >> (t - head) % ring & 1));
    }

    int make(int how, int a, int b) {
        Form x = find(a);
        Form y = how == 3 || how == 6 || how == 7 ? x : find(b);
        if (x == null || y == null || how < 0 || how > 7 || forms.size() == 40) {
            return -1;
        }
        if (how == 6 && (b < 0 || b > 30)) {
            return -1;
        }
        if (how == 5 && !y.endless()) {
            throw new IllegalArgumentException();
        }
        return keep(formOf(bitsOf(how, x, y, b)));
    }

    private static IntUnaryOperator bitsOf(int how, Form x, Form y, int late) {
        switch (how) {
            case 0:
                return t -> x.bit(t) * y.bit(t);
            case 1:
                return t -> Math.max(x.bit(t), y.bit(t));
            case 2:
                return t -> x.bit(t) == y.bit(t) ? 0 : 1;
            case 3:
                return t -> x.bit(t) == 0 ? 1 : 0;
            case 4:
                return on(x, y);
            case 5:
                return by(x, y);
            case 6:
                return t -> t < late ? 0 : x.bit(t - late);
            default:
                return halved(x);
        }
    }

    // These three are asked for TICK 0, 1, .. in turn, and count as they go.

    private static IntUnaryOperator on(Form x, Form y) {
        int[] read = {0};
        return t -> x.bit(t) == 0 ? 0 : y.bit(read[0]++);
    }

    private static IntUnaryOperator by(Form x, Form y) {
        int[] next = {0};
        return t -> {
            while (y.bit(next[0]) == 0) {
                next[0]++;
            }
            return x.bit(next[0]++);
        };
    }

    private static IntUnaryOperator halved(Form x) {
        boolean[] stays = {false};
        return t -> {
            if (x.bit(t) == 0) {
                return 0;
            }
            stays[0] = !stays[0];
            return stays[0] ? 1 : 0;
        };
    }

    int form(int a, int what) {
        Form x = find(a);
        if (x == null || what < 0 || what > 4) {
            return -1;
        }
        int ringOnes = (int) x.ring.chars().filter(c -> c == '1').count();
        int q = 1;
        while (ringOnes * q % x.ring.length() != 0) {
            q++;
        }
        switch (what) {
            case 0:
                return x.head.length();
            case 1:
                return x.ring.length();
            case 2:
                return ringOnes * q / x.ring.length();
            case 3:
                return q;
            default:
                return (int) x.head.chars().filter(c -> c == '1').count();
        }
    }

    int bit(int a, int tick) {
        Form x = find(a);
        return x == null || tick < 0 || tick > 1000000000 ? -1 : x.bit(tick);
    }

    int ones(int a, int n) {
        Form x = find(a);
        if (x == null || n < 0 || n > 1000000000) {
            return -1;
        }
        int sum = 0;
        for (int t = 0; t < n; t++) {
            sum += x.bit(t);
        }
        return sum;
    }

    int at(int a, int n) {
        Form x = find(a);
        if (x == null || n < 1 || n > 1000000) {
            throw new NoSuchElementException();
        }
        int seen = 0;
        for (int t = 0; x.endless() || t < 60; t++) {
            seen += x.bit(t);
            if (seen == n) {
                return t;
            }
        }
        throw new NoSuchElementException();
    }

    int same(int a) {
        return find(a) == null ? -1 : forms.indexOf(find(a));
    }

    boolean ahead(int a, int b) {
        Form x = find(a);
        Form y = find(b);
        if (x == null || y == null) {
            return false;
        }
        int kept = 0;
        for (int t = 0; t < HORIZON && kept >= 0; t++) {
            kept += x.bit(t) - y.bit(t);
        }
        return kept >= 0;
    }

    int between(int a, int b, int what) {
        Form x = find(a);
        Form y = find(b);
        if (x == null || y == null || what < 0 || what > 2) {
            return -1;
        }
        if (what == 2) {
            return theWait(x, y);
        }
        if (form(a, 2) != form(b, 2) || form(a, 3) != form(b, 3)) {
            throw new ArithmeticException();
        }
        int kept = 0;
        int most = 0;
        int least = 0;
        for (int t = 0; t < 2 * SETTLED; t++) {
            kept += x.bit(t) - y.bit(t);
            most = Math.max(most, kept);
            least = Math.min(least, kept);
        }
        return what == 0 ? most : -least;
    }

    // A wait that goes on growing in the second half of the horizon has no end.
    private static int theWait(Form x, Form y) {
        int most = 0;
        int mostOfFirstHalf = 0;
        int tickOfX = -1;
        for (int t = 0; t < HORIZON; t++) {
            if (y.bit(t) == 1) {
                tickOfX = nextOne(x, tickOfX + 1);
                most = Math.max(most, tickOfX - t);
            }
            if (t == HORIZON / 2) {
                mostOfFirstHalf = most;
            }
        }
        if (most > mostOfFirstHalf) {
            throw new ArithmeticException();
        }
        return most;
    }

    private static int nextOne(Form x, int from) {
        for (int t = from; x.endless() || t < 60; t++) {
            if (x.bit(t) == 1) {
                return t;
            }
        }
        throw new ArithmeticException();
    }

    void clear() {
        forms.clear();
    }

    int total() {
        return forms.size();
    }
}
