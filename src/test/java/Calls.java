/** Every call of the face by its name, for tests that go over tables of calls. */
final class Calls {
    private Calls() {
    }

    static long ask(SwingYard x, String call, int... n) {
        switch (call) {
            case "put":
                return x.put(n[0], n[1]);
            case "write":
                return x.write(n[0]);
            case "erase":
                return x.erase();
            case "fault":
                return x.fault();
            case "push":
                return x.push(n[0], n[1]);
            case "rest":
                return x.rest();
            case "begin":
                return x.begin(n[0]);
            case "tick":
                return x.tick(n[0]);
            case "told":
                return x.told(n[0]);
            case "turn":
                return x.turn(n[0]);
            case "image":
                return x.image(n[0]);
            case "from":
                return x.from(n[0]);
            case "status":
                return x.status(n[0]);
            case "digest":
                return x.digest();
            default:
                return askRun(x, call, n);
        }
    }

    private static long askRun(SwingYard x, String call, int... n) {
        switch (call) {
            case "peak":
                return x.peak(n[0]);
            case "gain":
                return x.gain(n[0]);
            case "worth":
                return x.worth(n[0], n[1], n[2]);
            case "begins":
                return x.begins();
            case "best":
                return x.best(n[0], n[1]);
            case "when":
                return x.when(n[0], n[1], n[2], n[3]);
            case "far":
                return x.far(n[0]);
            case "farthest":
                return x.farthest(n[0]);
            case "swaps":
                return x.swaps(n[0], n[1]);
            case "simplest":
                return x.simplest(n[0]);
            default:
                throw new IllegalArgumentException(call);
        }
    }
}
