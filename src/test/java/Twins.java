/** The program and the model side by side: each call goes to both, and the answers must be the same. */
final class Twins {
    private static final int CALLS = 512;

    private final String name;
    private final LineageTables x = new LineageTables();
    private final Model model = new Model();
    private int calls = 0;

    Twins(String name) {
        this.name = name;
    }

    boolean hasCallsLeft() {
        return calls < CALLS;
    }

    void node(int time, boolean sample) {
        both("node(" + time + ", " + sample + ")", () -> x.node(time, sample), () -> model.node(time, sample));
    }

    void join(int left, int right, int p, int c) {
        both("join" + listed(left, right, p, c), () -> x.join(left, right, p, c), () -> model.join(left, right, p, c));
    }

    void part(int left, int right, int c) {
        both("part" + listed(left, right, c), () -> x.part(left, right, c), () -> model.part(left, right, c));
    }

    void site(int place, int ancestral) {
        both("site" + listed(place, ancestral), () -> x.site(place, ancestral), () -> model.site(place, ancestral));
    }

    void mutate(int site, int node, int letter) {
        both("mutate" + listed(site, node, letter), () -> x.mutate(site, node, letter),
                () -> model.mutate(site, node, letter));
    }

    void count(int what) {
        both("count" + listed(what), () -> x.count(what), () -> model.count(what));
    }

    void time(int node) {
        both("time" + listed(node), () -> x.time(node), () -> model.time(node));
    }

    void edge(int i, int what) {
        both("edge" + listed(i, what), () -> x.edge(i, what), () -> model.edge(i, what));
    }

    void parent(int place, int node) {
        both("parent" + listed(place, node), () -> x.parent(place, node), () -> model.parent(place, node));
    }

    void meet(int place, int a, int b) {
        both("meet" + listed(place, a, b), () -> x.meet(place, a, b), () -> model.meet(place, a, b));
    }

    void trees() {
        both("trees()", x::trees, model::trees);
    }

    void cut(int i) {
        both("cut" + listed(i), () -> x.cut(i), () -> model.cut(i));
    }

    void letter(int site, int node) {
        both("letter" + listed(site, node), () -> x.letter(site, node), () -> model.letter(site, node));
    }

    void differing() {
        both("differing()", x::differing, model::differing);
    }

    void spectrum(int k) {
        both("spectrum" + listed(k), () -> x.spectrum(k), () -> model.spectrum(k));
    }

    void area() {
        both("area()", x::area, model::area);
    }

    void simplify() {
        both("simplify()", x::simplify, model::simplify);
    }

    void became(int node) {
        both("became" + listed(node), () -> x.became(node), () -> model.became(node));
    }

    /** All that can be read, as far as the calls reach: what happened before has to leave enough of them. */
    void readAll() {
        for (int what = 0; what < 5; what++) {
            count(what);
        }
        int nodes = model.count(0);
        for (int n = 0; n < nodes; n++) {
            time(n);
            for (int site = 0; site < model.count(3); site++) {
                letter(site, n);
            }
        }
        for (int i = 0; i < model.count(2); i++) {
            for (int what = 0; what < 4; what++) {
                edge(i, what);
            }
        }
        for (int n = 0; n < 14; n++) {
            became(n);
        }
    }

    private void both(String call, Check.Call ofProgram, Check.Call ofModel) {
        if (hasCallsLeft()) {
            calls++;
            Check.same(name + ", call " + calls + ": " + call, Check.outcome(ofProgram), Check.outcome(ofModel));
        }
    }

    private static String listed(int... numbers) {
        StringBuilder text = new StringBuilder("(");
        for (int i = 0; i < numbers.length; i++) {
            text.append(i == 0 ? "" : ", ").append(numbers[i]);
        }
        return text.append(")").toString();
    }
}
