import java.util.ArrayList;
import java.util.List;
import java.util.TreeMap;

/**
 * The document once more, written as differently from PieceBench as may be: maps and lists made anew, nothing used
 * twice, time told by ages.
 */
final class Model {
    private static final class Datagram {
        List<Integer> name;
        int whole;
        int age;
        final TreeMap<Integer, Integer> come = new TreeMap<>();
    }

    private List<Integer> fed = new ArrayList<>();
    private final List<Datagram> inOrder = new ArrayList<>();
    private Datagram last;
    private long time;

    int feed(long bytes, int n) {
        if (n < 1 || n > 8) {
            throw new IllegalArgumentException();
        }
        if (fed.size() + n > 1480) {
            throw new IllegalStateException();
        }
        String digits = String.format("%016x", bytes);
        for (int k = 8 - n; k < 8; k++) {
            fed.add(Integer.parseInt(digits.substring(2 * k, 2 * k + 2), 16));
        }
        return fed.size();
    }

    int piece(int source, int goal, int number, int from, int whole) {
        if (whole < 1 || whole > 1480 || from < 0) {
            throw new IllegalArgumentException();
        }
        if (fed.isEmpty() || (long) from + fed.size() > whole) {
            throw new IllegalStateException();
        }
        List<Integer> bytes = fed;
        fed = new ArrayList<>();
        Datagram datagram = find(source, goal, number);
        if (datagram == null) {
            datagram = new Datagram();
            datagram.name = List.of(source, goal, number);
            datagram.whole = whole;
            inOrder.add(datagram);
            if (inOrder.size() > 4) {
                inOrder.remove(0);
            }
        }
        if (datagram.whole != whole) {
            return -1;
        }
        for (int k = 0; k < bytes.size(); k++) {
            datagram.come.putIfAbsent(from + k, bytes.get(k));
        }
        if (datagram.come.size() < whole) {
            return 0;
        }
        inOrder.remove(datagram);
        last = datagram;
        return 1;
    }

    int pass(int n) {
        if (n < 0 || n > 1000000) {
            throw new IllegalArgumentException();
        }
        if (time + n > 1000000000L) {
            throw new IllegalStateException();
        }
        time += n;
        int before = inOrder.size();
        for (Datagram datagram : inOrder) {
            datagram.age += n;
        }
        inOrder.removeIf(datagram -> datagram.age >= 300);
        return before - inOrder.size();
    }

    int about(int what) {
        if (what < 0 || what > 3) {
            throw new IllegalArgumentException();
        }
        if (last == null) {
            throw new IllegalStateException();
        }
        return what == 3 ? last.whole : last.name.get(what);
    }

    int byteAt(int i) {
        if (last == null) {
            throw new IllegalStateException();
        }
        if (!last.come.containsKey(i)) {
            throw new IndexOutOfBoundsException();
        }
        return last.come.get(i);
    }

    int missing(int source, int goal, int number) {
        Datagram datagram = find(source, goal, number);
        return datagram == null ? -1 : datagram.whole - datagram.come.size();
    }

    boolean has(int source, int goal, int number, int i) {
        Datagram datagram = find(source, goal, number);
        return datagram != null && datagram.come.containsKey(i);
    }

    int waiting() {
        return inOrder.size();
    }

    private Datagram find(int source, int goal, int number) {
        for (Datagram datagram : inOrder) {
            if (datagram.name.equals(List.of(source, goal, number))) {
                return datagram;
            }
        }
        return null;
    }
}
