/** Networks that several tests use. */
final class Nets {
    private Nets() {
    }

    static ValveWalk empty() {
        return new ValveWalk();
    }

    /** Nodes 0 (the source) to count - 1 in a row; the pipe p leads from the node p to p + 1. */
    static ValveWalk row(int count, int length, int customers) {
        ValveWalk walk = new ValveWalk();
        for (int node = 0; node < count; node++) {
            walk.addNode(node == 0);
        }
        for (int pipe = 0; pipe + 1 < count; pipe++) {
            walk.addPipe(pipe, pipe + 1, length, customers);
        }
        return walk;
    }

    /** A row with a valve at both ends of each pipe: 2 * p at the end 0 of p, 2 * p + 1 at 1. */
    static ValveWalk valvedRow(int count, int length, int customers) {
        ValveWalk walk = row(count, length, customers);
        for (int pipe = 0; pipe + 1 < count; pipe++) {
            walk.addValve(pipe, 0);
            walk.addValve(pipe, 1);
        }
        return walk;
    }

    /** 12 nodes in a ring, 4 pipes across it, valves at the ends 0 of the pipes 0 to 11. */
    static ValveWalk full() {
        ValveWalk walk = row(12, 1, 99);
        walk.addPipe(11, 0, 99, 0);
        for (int node = 0; node < 4; node++) {
            walk.addPipe(node, node + 6, 10 + node, 1);
        }
        for (int pipe = 0; pipe < 12; pipe++) {
            walk.addValve(pipe, 0);
        }
        return walk;
    }

    /** A row of 3 nodes with 4 valves: the valve 0 shut, 1 stuck, 2 shut and stuck, 3 as made. */
    static ValveWalk mixed() {
        ValveWalk walk = valvedRow(3, 7, 5);
        walk.turn(0, true);
        walk.setStuck(1, true);
        walk.turn(2, true);
        walk.setStuck(2, true);
        return walk;
    }
}
