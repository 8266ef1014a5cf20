import java.math.BigInteger;
import java.util.ArrayDeque;
import java.util.ArrayList;
import java.util.Collections;
import java.util.Deque;
import java.util.List;
import java.util.Map;
import java.util.NoSuchElementException;
import java.util.TreeMap;
import java.util.TreeSet;
import java.util.regex.Matcher;
import java.util.regex.Pattern;

/** The document once more, with the Java library, to be compared with. */
final class Model {
    private static final BigInteger GREATEST = BigInteger.TEN.pow(15);
    private static final Pattern ORDER = Pattern.compile("([ltmb])([0-9]{1,2});");

    private record Mills(TreeMap<Integer, Integer> stones, int milled) {
        Mills copy() {
            return new Mills(new TreeMap<>(stones), milled);
        }
    }

    private record Pair(BigInteger x, BigInteger y) {
    }

    private record Solution(long x, int stone) implements Comparable<Solution> {
        public int compareTo(Solution other) {
            return x != other.x ? Long.compare(x, other.x) : Integer.compare(stone, other.stone);
        }
    }

    private record Fault(int position, int reason, int cause) {
    }

    private final Map<Integer, List<Pair>> powers = new TreeMap<>();
    private final Deque<Mills> history = new ArrayDeque<>();
    private Mills now = new Mills(new TreeMap<>(), 0);
    private Mills kept = null;
    private String text = "";

    Object answer(int kind, int number, int place, int sign, long bound) {
        if (kind <= 3) {
            return changed(kind, number);
        }
        if (kind <= 10) {
            return ofRoots(kind, number, place);
        }
        if (kind <= 19) {
            return ofStones(kind, number);
        }
        if (kind <= 26) {
            return ofSolutions(kind, place, bound);
        }
        return kind <= 30 ? ofStates(kind) : ofText(kind, sign);
    }

    private Object changed(int kind, int number) {
        Mills before = now.copy();
        long answer = done("ltmb".charAt(kind), number);
        record(before);
        return answer;
    }

    private void record(Mills before) {
        history.addLast(before);
        if (history.size() > 4) {
            history.removeFirst();
        }
    }

    private long done(char order, int number) {
        inRange(number, 2, 60);
        TreeMap<Integer, Integer> stones = now.stones();
        if (order == 'l') {
            state(whyNot(number) == 0);
            stones.put(number, 0);
            return stones.size();
        }
        state(stones.containsKey(number));
        if (order == 't') {
            return stones.remove(number);
        }
        int power = stones.get(number) + (order == 'm' ? 1 : -1);
        state(power >= 0 && power < powersOf(number).size());
        stones.put(number, power);
        now = new Mills(stones, now.milled() + (order == 'm' ? 1 : 0));
        return powersOf(number).get(power).x().longValueExact();
    }

    private int whyNot(int number) {
        return isSquare(number) ? 1 : now.stones().containsKey(number) ? 2 : now.stones().size() == 8 ? 3 : 0;
    }

    private Object ofRoots(int kind, int number, int place) {
        inRange(number, 2, 60);
        if (kind == 4) {
            return (long) whyNot(number);
        }
        if (kind == 6) {
            inRange(place, 0, 99);
        }
        there(!isSquare(number));
        switch (kind) {
            case 5: return (long) period(number);
            case 6: return (long) terms(number, 100).get(place);
            case 7: return unit(number).x().longValueExact();
            case 8: return unit(number).y().longValueExact();
            default: return leastY(number);
        }
    }

    private Object ofStones(int kind, int number) {
        if (kind == 11) {
            return (long) now.stones().size();
        }
        inRange(number, 2, 60);
        if (kind == 12) {
            return now.stones().containsKey(number) ? 1L : 0L;
        }
        if (kind == 13) {
            there(now.stones().ceilingKey(number) != null);
            return (long) now.stones().ceilingKey(number);
        }
        there(now.stones().containsKey(number));
        int power = now.stones().get(number);
        Pair pair = powersOf(number).get(power);
        switch (kind) {
            case 14: return (long) power;
            case 15: return pair.x().longValueExact();
            case 16: return pair.y().longValueExact();
            case 19:
                there(power > 0);
                return pair.x().floatValue() / pair.y().floatValue();
            default: return norm(number, pair);
        }
    }

    private Object ofSolutions(int kind, int place, long bound) {
        TreeSet<Solution> set = new TreeSet<>();
        for (int number : now.stones().keySet()) {
            List<Pair> all = powersOf(number);
            for (Pair pair : all.subList(1, all.size())) {
                set.add(new Solution(pair.x().longValueExact(), number));
            }
        }
        if (kind == 20) {
            return (long) set.size();
        }
        if (kind == 24) {
            if (bound < 0 || bound > GREATEST.longValueExact()) {
                throw new IllegalArgumentException();
            }
            return (long) set.headSet(new Solution(bound, 61)).size();
        }
        if (kind == 25) {
            return (long) now.milled();
        }
        if (kind == 26) {
            return now.stones().entrySet().stream()
                .filter(stone -> norm(stone.getKey(), powersOf(stone.getKey()).get(stone.getValue())) < 0).count();
        }
        inRange(place, 0, Integer.MAX_VALUE);
        there(place < set.size());
        Solution solution = new ArrayList<>(set).get(place);
        return kind == 23 ? (long) solution.stone() : solution.x();
    }

    private Object ofStates(int kind) {
        if (kind == 27) {
            kept = now.copy();
            return (long) now.stones().size();
        }
        if (kind == 28) {
            state(kept != null);
            record(now);
            now = kept.copy();
            return (long) now.stones().size();
        }
        if (kind == 30) {
            state(!history.isEmpty());
            now = history.removeLast();
        }
        return (long) history.size();
    }

    private Object ofText(int kind, int sign) {
        if (kind == 31) {
            long length = text.length();
            text = "";
            return length;
        }
        if (kind == 32) {
            inRange(sign, 32, 126);
            state(text.length() < 60);
            text += (char) sign;
            return (long) text.length();
        }
        Mills before = now.copy();
        Fault fault = playedUpToFault();
        Mills after = now;
        now = before;
        if (kind == 36) {
            state(fault == null);
            record(before);
            now = after;
            return text.chars().filter(c -> c == ';').count();
        }
        there(fault != null);
        return (long) (kind == 33 ? fault.position() : kind == 34 ? fault.reason() : fault.cause());
    }

    private Fault playedUpToFault() {
        int position = 0;
        while (position < text.length()) {
            Matcher order = ORDER.matcher(text).region(position, text.length());
            if (!order.lookingAt()) {
                return new Fault(position, 1, brokenAt(text.substring(position)));
            }
            try {
                done(order.group(1).charAt(0), Integer.parseInt(order.group(2)));
            } catch (IllegalArgumentException e) {
                return new Fault(position, 2, 1);
            } catch (IllegalStateException e) {
                return new Fault(position, 2, 2);
            }
            position = order.end();
        }
        return null;
    }

    /** The longest beginning that still could become an order. */
    private static int brokenAt(String rest) {
        int good = 0;
        while (good < rest.length() && rest.substring(0, good + 1).matches("[ltmb][0-9]{0,2}")) {
            good++;
        }
        return good;
    }

    private static boolean isSquare(int number) {
        return BigInteger.valueOf(number).sqrtAndRemainder()[1].signum() == 0;
    }

    private static List<Integer> terms(int number, int count) {
        List<Integer> terms = new ArrayList<>();
        int whole = BigInteger.valueOf(number).sqrt().intValueExact();
        int m = 0;
        int q = 1;
        for (int i = 0; i < count; i++) {
            terms.add((whole + m) / q);
            m = q * terms.get(i) - m;
            q = (number - m * m) / q;
        }
        return terms;
    }

    private static int period(int number) {
        List<Integer> terms = terms(number, 100);
        return 1 + terms.subList(1, 100).indexOf(2 * terms.get(0));
    }

    /** From the last term back to the first one, as a fraction. */
    private static Pair unit(int number) {
        List<Integer> back = terms(number, period(number));
        Collections.reverse(back);
        BigInteger x = BigInteger.ONE;
        BigInteger y = BigInteger.ZERO;
        for (int term : back) {
            BigInteger next = x.multiply(BigInteger.valueOf(term)).add(y);
            y = x;
            x = next;
        }
        return new Pair(x, y);
    }

    private List<Pair> powersOf(int number) {
        return powers.computeIfAbsent(number, Model::madePowers);
    }

    private static List<Pair> madePowers(int number) {
        List<Pair> made = new ArrayList<>();
        Pair unit = unit(number);
        BigInteger d = BigInteger.valueOf(number);
        Pair pair = new Pair(BigInteger.ONE, BigInteger.ZERO);
        while (pair.x().compareTo(GREATEST) <= 0) {
            made.add(pair);
            pair = new Pair(pair.x().multiply(unit.x()).add(d.multiply(pair.y()).multiply(unit.y())),
                pair.x().multiply(unit.y()).add(pair.y().multiply(unit.x())));
        }
        return made;
    }

    private static long norm(int number, Pair pair) {
        return pair.x().pow(2).subtract(pair.y().pow(2).multiply(BigInteger.valueOf(number))).longValueExact();
    }

    private long leastY(int number) {
        for (Pair pair : powersOf(number).subList(1, powersOf(number).size())) {
            if (norm(number, pair) == 1) {
                return pair.y().longValueExact();
            }
        }
        throw new AssertionError(number);
    }

    private static void inRange(int value, int least, int greatest) {
        if (value < least || value > greatest) {
            throw new IllegalArgumentException();
        }
    }

    private static void there(boolean isThere) {
        if (!isThere) {
            throw new NoSuchElementException();
        }
    }

    private static void state(boolean allows) {
        if (!allows) {
            throw new IllegalStateException();
        }
    }
}
