/** A PortsBench whose calls are counted, since the document promises 512 of them, and told by their text. */
final class Bench {
    static final int MOST_CALLS = 512;

    private final PortsBench bench = new PortsBench();
    int calls;
    String latest = "no call";

    private void called(String name, long... arguments) {
        calls++;
        StringBuilder text = new StringBuilder(name).append('(');
        for (int k = 0; k < arguments.length; k++) {
            text.append(k == 0 ? "" : ", ").append(arguments[k]);
        }
        latest = text.append(')').toString();
    }

    int box(int ports) {
        called("box", ports);
        return bench.box(ports);
    }

    int set(int box, int tone, int i, int j, int p, int q, int r) {
        called("set", box, tone, i, j, p, q, r);
        return bench.set(box, tone, i, j, p, q, r);
    }

    int all(int box, int i, int j, int p, int q, int r) {
        called("all", box, i, j, p, q, r);
        return bench.all(box, i, j, p, q, r);
    }

    int copy(int c, int a) {
        called("copy", c, a);
        return bench.copy(c, a);
    }

    int join(int c, int a, int b) {
        called("join", c, a, b);
        return bench.join(c, a, b);
    }

    int takeOff(int c, int w, int a, int side) {
        called("takeOff", c, w, a, side);
        return bench.takeOff(c, w, a, side);
    }

    int turn(int c, int a) {
        called("turn", c, a);
        return bench.turn(c, a);
    }

    int close(int c, int a, int k) {
        called("close", c, a, k);
        return bench.close(c, a, k);
    }

    int learn(int c, int k, int m) {
        called("learn", c, k, m);
        return bench.learn(c, k, m);
    }

    int correct(int c, int e, int m) {
        called("correct", c, e, m);
        return bench.correct(c, e, m);
    }

    int step(int c, int n, int d) {
        called("step", c, n, d);
        return bench.step(c, n, d);
    }

    int time(int c, int a, int i, int j) {
        called("time", c, a, i, j);
        return bench.time(c, a, i, j);
    }

    int undo() {
        called("undo");
        return bench.undo();
    }

    int where(int what) {
        called("where", what);
        return bench.where(what);
    }

    long part(int box, int tone, int i, int j, int what) {
        called("part", box, tone, i, j, what);
        return bench.part(box, tone, i, j, what);
    }

    int about(int box, int what) {
        called("about", box, what);
        return bench.about(box, what);
    }

    int is(int box, int tone, int what) {
        called("is", box, tone, what);
        return bench.is(box, tone, what);
    }

    int against(int tone, int a, int i, int j, int b, int k, int l) {
        called("against", tone, a, i, j, b, k, l);
        return bench.against(tone, a, i, j, b, k, l);
    }

    int worst(int box, int i, int j) {
        called("worst", box, i, j);
        return bench.worst(box, i, j);
    }

    int same(int a, int b) {
        called("same", a, b);
        return bench.same(a, b);
    }

    int count(int what) {
        called("count", what);
        return bench.count(what);
    }
}
