/** A call tried with one number after another in one place of it, each on objects of its own. */
final class Edge {
    private final String name;
    private final Scenes.Maker maker;
    private final Call call;

    interface Call {
        long on(GhostSigns x, int v);
    }

    Edge(String name, Scenes.Maker maker, Call call) {
        this.name = name;
        this.maker = maker;
        this.call = call;
    }

    private String nameOf(int v) {
        return name + " of " + v;
    }

    Edge takes(int v, long want) {
        Cases.takes(nameOf(v), maker, x -> call.on(x, v), want);
        return this;
    }

    /** A question: it answers and changes nothing. */
    Edge leaves(int v, long want) {
        Cases.leaves(nameOf(v), maker, x -> call.on(x, v), want);
        return this;
    }

    Edge bad(int... numbers) {
        for (int v : numbers) {
            Cases.bad(nameOf(v), maker, x -> call.on(x, v));
        }
        return this;
    }

    Edge full(int... numbers) {
        for (int v : numbers) {
            Cases.full(nameOf(v), maker, x -> call.on(x, v));
        }
        return this;
    }

    Edge finds(int finding, int... numbers) {
        for (int v : numbers) {
            Cases.finds(nameOf(v), maker, x -> call.on(x, v), finding);
        }
        return this;
    }
}
