/** Networks that several tests use. */
final class Nets {
    private Nets() {
    }

    static ValveWalk empty() {
        return new ValveWalk();
    }

    /** Nodes 0 (the source) to count - 1 in a row; the pipe p leads from the node p to p + 1. */
    static ValveWalk row(int count, int length, int customers) {
        ValveWalk walk = new ValveWalk();
        for (int node = 0; node < count; node++) {
            walk.addNode(node == 0);
        }
        for (int pipe = 0; pipe + 1 < count; pipe++) {
            walk.addPipe(pipe, pipe + 1, length, customers);
        }
        return walk;
    }

    /** A row with a valve at both ends of each pipe: 2 * p at the end 0 of p, 2 * p + 1 at 1. */
    static ValveWalk valvedRow(int count, int length, int customers) {
        ValveWalk walk = row(count, length, customers);
        for (int pipe = 0; pipe + 1 < count; pipe++) {
            walk.addValve(pipe, 0);
            walk.addValve(pipe, 1);
        }
        return walk;
    }

    /** 12 nodes in a ring, 4 pipes across it, valves at the ends 0 of the pipes 0 to 11. */
    static ValveWalk full() {
        ValveWalk walk = row(12, 1, 99);
        walk.addPipe(11, 0, 99, 0);
        for (int node = 0; node < 4; node++) {
            walk.addPipe(node, node + 6, 10 + node, 1);
        }
        for (int pipe = 0; pipe < 12; pipe++) {
            walk.addValve(pipe, 0);
        }
        return walk;
    }

    /** A row of 3 nodes with 4 valves: the valve 0 shut, 1 stuck, 2 shut and stuck, 3 as made. */
    static ValveWalk mixed() {
        ValveWalk walk = valvedRow(3, 7, 5);
        walk.turn(0, true);
        walk.setStuck(1, true);
        walk.turn(2, true);
        walk.setStuck(2, true);
        return walk;
    }

    /**
     * All that there may be at once. 12 nodes in a ring with 4 pipes across it, none of which is
     * longer than a way round it; the valves 2 * p and 2 * p + 1 are at both ends of the pipe
     * 2 * p, some of them shut or stuck or both; the nodes 0 and 7 are sources.
     */
    static ValveWalk crowded() {
        ValveWalk walk = new ValveWalk();
        for (int node = 0; node < 12; node++) {
            walk.addNode(node == 0 || node == 7);
        }
        for (int pipe = 0; pipe < 12; pipe++) {
            walk.addPipe(pipe, (pipe + 1) % 12, 30 + pipe, pipe + 1);
        }
        for (int node = 0; node < 4; node++) {
            walk.addPipe(node, node + 6, 50 + node, 13 + node);
        }
        for (int valve = 0; valve < 12; valve++) {
            walk.addValve(valve / 2 * 2, valve % 2);
        }
        walk.turn(3, true);
        walk.setStuck(5, true);
        walk.turn(8, true);
        walk.setStuck(8, true);
        return walk;
    }

    /**
     * So many of each. The node 0 is a source; the pipe p leads on by one from the node p, round
     * again from the node 0 behind the last but one, and is p + 1 long and has p + 1 customers;
     * the valves 2 * p and 2 * p + 1 are at both ends of the pipe p.
     */
    static ValveWalk sized(int nodes, int pipes, int valves) {
        ValveWalk walk = new ValveWalk();
        for (int node = 0; node < nodes; node++) {
            walk.addNode(node == 0);
        }
        for (int pipe = 0; pipe < pipes; pipe++) {
            int from = pipe % (nodes - 1);
            walk.addPipe(from, from + 1, pipe + 1, pipe + 1);
        }
        for (int valve = 0; valve < valves; valve++) {
            walk.addValve(valve / 2, valve % 2);
        }
        return walk;
    }

    /** The node 0 in the middle; the pipe p leads from it to the node p + 1, with a valve there. */
    static ValveWalk star(int pipes, int length) {
        ValveWalk walk = new ValveWalk();
        walk.addNode(true);
        for (int pipe = 0; pipe < pipes; pipe++) {
            walk.addNode(false);
            walk.addPipe(0, pipe + 1, length, 1);
            walk.addValve(pipe, 1);
        }
        return walk;
    }
}
