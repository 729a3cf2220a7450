import java.util.ArrayList;
import java.util.Arrays;
import java.util.List;

/** The greatest flow from node 0 to node 1, and the least that it can cost. */
final class PlainFlow {
    private static final class Edge {
        final int from;
        final int to;
        final int cost;
        int free;
        Edge back;

        Edge(int from, int to, int free, int cost) {
            this.from = from;
            this.to = to;
            this.free = free;
            this.cost = cost;
        }
    }

    private final int nodes;
    private final List<Edge> forth = new ArrayList<>();
    private final List<Edge> edges = new ArrayList<>();
    int amount;
    int cost;

    PlainFlow(int nodes) {
        this.nodes = nodes;
    }

    void add(int from, int to, int most, int ofCost) {
        Edge edge = new Edge(from, to, most, ofCost);
        edge.back = new Edge(to, from, 0, -ofCost);
        edge.back.back = edge;
        forth.add(edge);
        edges.add(edge);
        edges.add(edge.back);
    }

    /** Any greatest flow first; then round and round wherever it gets cheaper by that. */
    void fill() {
        Edge[] by = new Edge[nodes];
        while (reach(by)) {
            push(by, 1, 0);
        }
        for (int node = cheaperRound(by); node >= 0; node = cheaperRound(by)) {
            push(by, node, node);
        }
        for (Edge edge : forth) {
            cost += edge.cost * edge.back.free;
            amount += edge.from == 0 ? edge.back.free : 0;
        }
    }

    private boolean reach(Edge[] by) {
        Arrays.fill(by, null);
        boolean more = true;
        while (more) {
            more = false;
            for (Edge edge : edges) {
                boolean known = edge.from == 0 || by[edge.from] != null;
                if (edge.free > 0 && known && edge.to != 0 && by[edge.to] == null) {
                    by[edge.to] = edge;
                    more = true;
                }
            }
        }
        return by[1] != null;
    }

    /** Answers a node on a round that costs less than nothing, with the edges to it, or -1. */
    private int cheaperRound(Edge[] by) {
        Arrays.fill(by, null);
        int[] least = new int[nodes];
        int changed = 0;
        for (int round = 0; round <= nodes && changed >= 0; round++) {
            changed = -1;
            for (Edge edge : edges) {
                if (edge.free > 0 && least[edge.from] + edge.cost < least[edge.to]) {
                    least[edge.to] = least[edge.from] + edge.cost;
                    by[edge.to] = edge;
                    changed = edge.to;
                }
            }
        }
        // So many steps back from the last change lead into the round itself.
        for (int step = 0; step < nodes && changed >= 0; step++) {
            changed = by[changed].from;
        }
        return changed;
    }

    private static void push(Edge[] by, int last, int first) {
        List<Edge> path = new ArrayList<>();
        int node = last;
        do {
            path.add(by[node]);
            node = by[node].from;
        } while (node != first);
        int most = path.stream().mapToInt(edge -> edge.free).min().getAsInt();
        for (Edge edge : path) {
            edge.free -= most;
            edge.back.free += most;
        }
    }
}
