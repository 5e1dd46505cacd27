import java.util.ArrayDeque;
import java.util.ArrayList;
import java.util.HashSet;
import java.util.List;
import java.util.NoSuchElementException;
import java.util.Set;

/** The document's promises told in the plainest way, to be compared with ForwardYard. */
public final class PlainYard {

    private static final class Node {
        private final int number;
        private final Node[] fields;
        private int value;
        private int age;

        Node(int number, int fields, int value) {
            this.number = number;
            this.fields = new Node[fields];
            this.value = value;
        }
    }

    private final Node[] registers = new Node[8];
    private final Node[] weak = new Node[4];
    private List<Node> store = new ArrayList<>();
    private int made;
    private int collections;

    public int make(int r, int fields, int value) {
        argument(isRegister(r) && fields >= 0 && fields <= 4);
        if (figure(0) + fields + 3 > 240) {
            throw new IllegalStateException();
        }
        registers[r] = new Node(made++, fields, value);
        store.add(registers[r]);
        return registers[r].number;
    }

    public void set(int r, int f, int q) {
        argument(isRegister(r) && isRegister(q));
        Node node = withField(r, f);
        node.fields[f] = registers[q];
    }

    public void get(int r, int f, int q) {
        argument(isRegister(r) && isRegister(q));
        registers[q] = withField(r, f).fields[f];
    }

    public void copy(int r, int q) {
        argument(isRegister(r) && isRegister(q));
        registers[q] = registers[r];
    }

    public boolean clear(int r) {
        argument(isRegister(r));
        boolean referred = registers[r] != null;
        registers[r] = null;
        return referred;
    }

    public int write(int r, int value) {
        argument(isRegister(r));
        int old = present(r).value;
        registers[r].value = value;
        return old;
    }

    public void watch(int w, int r) {
        argument(isWeak(w) && isRegister(r));
        weak[w] = registers[r];
    }

    public void revive(int w, int r) {
        argument(isWeak(w) && isRegister(r));
        registers[r] = weak[w];
    }

    public int watched(int w) {
        argument(isWeak(w));
        return numberOf(weak[w]);
    }

    public int about(int r, int what) {
        argument(isRegister(r) && what >= 0 && what <= 3);
        Node node = present(r);
        return new int[] {node.number, node.value, node.age, node.fields.length}[what];
    }

    public int field(int r, int f) {
        argument(isRegister(r));
        return numberOf(withField(r, f).fields[f]);
    }

    public boolean same(int r, int q) {
        argument(isRegister(r) && isRegister(q));
        return registers[r] == registers[q];
    }

    public int reach(int r) {
        argument(isRegister(r));
        return reached(registers[r]).size();
    }

    public int collect(int workers, int turns) {
        argument(workers >= 1 && workers <= 4);
        Set<Node> kept = reached(registers);
        List<Node> stay = new ArrayList<>();
        for (Node node : store) {
            if (kept.contains(node)) {
                node.age++;
                stay.add(node);
            }
        }
        for (int w = 0; w < weak.length; w++) {
            weak[w] = kept.contains(weak[w]) ? weak[w] : null;
        }
        int gone = store.size() - stay.size();
        store = stay;
        collections++;
        return gone;
    }

    public int figure(int k) {
        argument(k >= 0 && k <= 3);
        int words = 0;
        for (Node node : store) {
            words += node.fields.length + 3;
        }
        return new int[] {words, store.size(), collections, made}[k];
    }

    private static boolean isRegister(int r) {
        return r >= 0 && r < 8;
    }

    private static boolean isWeak(int w) {
        return w >= 0 && w < 4;
    }

    private static void argument(boolean legal) {
        if (!legal) {
            throw new IllegalArgumentException();
        }
    }

    private Node present(int r) {
        if (registers[r] == null) {
            throw new NoSuchElementException();
        }
        return registers[r];
    }

    private Node withField(int r, int f) {
        Node node = present(r);
        if (f < 0 || f >= node.fields.length) {
            throw new IndexOutOfBoundsException();
        }
        return node;
    }

    private static int numberOf(Node node) {
        return node == null ? -1 : node.number;
    }

    private static Set<Node> reached(Node... starts) {
        Set<Node> found = new HashSet<>();
        ArrayDeque<Node> open = new ArrayDeque<>();
        for (Node start : starts) {
            if (start != null && found.add(start)) {
                open.add(start);
            }
        }
        while (!open.isEmpty()) {
            for (Node next : open.remove().fields) {
                if (next != null && found.add(next)) {
                    open.add(next);
                }
            }
        }
        return found;
    }
}
