import java.util.Random;

/**
 * Long runs of chosen calls: WideNet must answer and stand as the model does after each of them.
 * Only calls that may change something are counted towards a run's 512, as looking changes nothing.
 */
public final class ModelTest {
    private static final int RUNS = 600;
    private static final int CALLS = 512;
    private static final int[] ODD = {-1, 3, 4, 12, 51, Integer.MIN_VALUE, Integer.MAX_VALUE};

    private final Random random;
    private final WideNet net;
    private final Model model;
    private final int run;
    private int call = 0;
    private boolean same = true;

    private ModelTest(int run) {
        this.run = run;
        random = new Random(run);
        int seed = random.nextInt(4) == 0 ? random.nextInt() : random.nextInt(400) - 200;
        net = new WideNet(seed);
        model = new Model(seed);
    }

    public static void main(String[] args) {
        int[] reached = new int[6];
        for (int run = 0; run < RUNS; run++) {
            ModelTest test = new ModelTest(run);
            test.go();
            for (int d = 0; d < 3; d++) {
                for (int what = 0; what < 4; what++) {
                    reached[what] += test.net.tally(d, what);
                }
                reached[4] += test.net.received(d, true);
                reached[5] += test.net.received(d, false);
            }
        }
        String[] names = {"acknowledged", "failed", "checked", "sessions", "received up", "received down"};
        for (int i = 0; i < names.length; i++) {
            System.out.println("the runs came to " + reached[i] + " " + names[i]);
            Due.is("some " + names[i] + " in each run", reached[i] >= RUNS, true);
        }
        Due.end();
    }

    private void go() {
        while (call < CALLS && same) {
            if (random.nextInt(3) == 0) {
                exchange(random.nextInt(3));
            } else {
                step();
            }
            compareAll();
        }
        Due.is("run " + run + " is the model's up to call " + call, same, true);
    }

    /** A number that mostly is one of 0 .. below - 1, and now and then is none of them. */
    private int about(int below) {
        if (random.nextInt(40) == 0 || below <= 0) {
            return ODD[random.nextInt(ODD.length)];
        }
        return random.nextInt(below);
    }

    /** Each call that changes something goes through here, and so is counted. */
    private void same(String what, long got, long want) {
        call++;
        if (got != want) {
            same = false;
            Due.is("run " + run + ", call " + call + ", " + what, got, want);
        }
    }

    private void same(String what, boolean got, boolean want) {
        same(what, got ? 1 : 0, want ? 1 : 0);
    }

    private void step() {
        int d = about(3);
        int k = about(net.frames());
        long payload = random.nextBoolean() ? random.nextLong() : random.nextInt(300);
        int n = random.nextInt(20) == 0 ? ODD[random.nextInt(ODD.length)] : random.nextInt(9);
        boolean confirmed = random.nextBoolean();
        boolean check = random.nextBoolean();
        int kind = random.nextInt(100);
        if (kind < 8) {
            // A device that is in stays there for a while, so that its session comes to something.
            if (net.state(d) != 2 || random.nextInt(12) == 0) {
                same("join", net.join(d), model.join(d));
            }
        } else if (kind < 26) {
            same("send", net.send(d, payload, n, confirmed, check), model.send(d, payload, n, confirmed, check));
        } else if (kind < 29) {
            int by = random.nextInt(3) == 0 ? random.nextInt(70003) - 1 : random.nextInt(40);
            same("skip", net.skip(d, by), model.skip(d, by));
        } else if (kind < 36) {
            same("queue", net.queue(d, payload, n), model.queue(d, payload, n));
        } else if (kind < 50) {
            int ticks = random.nextInt(8) == 0 ? random.nextInt(54) - 1 : 1;
            same("tick", net.tick(ticks), model.tick(ticks));
        } else if (kind < 68) {
            int g = about(2);
            same("hear", net.hear(k, g), model.hear(k, g));
        } else if (kind < 82) {
            same("reach", net.reach(k), model.reach(k));
        } else if (kind < 89) {
            same("lose", net.lose(k), model.lose(k));
        } else if (kind < 95) {
            int j = about(8);
            same("replay", net.replay(j), model.replay(j));
        } else {
            spoil(k);
        }
    }

    /** What mostly happens on the air: a frame up is heard, and what comes down soon reaches its device. */
    private void exchange(int d) {
        while (net.frames() > 3 + random.nextInt(7)) {
            same("lose", net.lose(0), model.lose(0));
        }
        if (net.state(d) == 0) {
            same("join", net.join(d), model.join(d));
        } else if (net.state(d) == 2) {
            boolean confirmed = random.nextBoolean();
            boolean check = random.nextInt(3) == 0;
            int n = random.nextInt(9);
            long payload = random.nextLong();
            same("send", net.send(d, payload, n, confirmed, check), model.send(d, payload, n, confirmed, check));
        }
        compareAll();
        for (int g = 0; g < 2; g++) {
            if (random.nextInt(4) > 0) {
                int k = net.frames() - 1;
                same("hear", net.hear(k, g), model.hear(k, g));
            }
        }
        same("tick", net.tick(1), model.tick(1));
        compareAll();
        if (random.nextInt(4) > 0) {
            int k = net.frames() - 1;
            same("reach", net.reach(k), model.reach(k));
        }
    }

    private void spoil(int k) {
        int i = about(net.length(k));
        int x = random.nextInt(10) == 0 ? random.nextInt(520) - 130 : 1 << random.nextInt(8);
        same("spoil", net.spoil(k, i, x), model.spoil(k, i, x));
        if (random.nextBoolean()) {
            same("hear a spoiled one", net.hear(k, 0), model.hear(k, 0));
            same("spoil back", net.spoil(k, i, x), model.spoil(k, i, x));
        }
    }

    private void compareAll() {
        int before = call;
        compareAnswers();
        call = before;
    }

    private void compareAnswers() {
        same("frames", net.frames(), model.frames());
        for (int k = 0; k < net.frames() && same; k++) {
            same("length", net.length(k), model.length(k));
            same("goal", net.goal(k), model.goal(k));
            for (int i = 0; i < net.length(k); i++) {
                same("octet", net.octet(k, i), model.octet(k, i));
            }
        }
        for (int d = 0; d < 3; d++) {
            same("state", net.state(d), model.state(d));
            for (int what = 0; what < 4; what++) {
                same("tally", net.tally(d, what), model.tally(d, what));
            }
            compareReceived(d, true);
            compareReceived(d, false);
        }
    }

    private void compareReceived(int d, boolean up) {
        int total = net.received(d, up);
        same("received", total, model.received(d, up));
        for (int i = Math.max(-1, total - 6); i <= total + 1; i++) {
            same("payload", net.payload(d, up, i), model.payload(d, up, i));
        }
    }
}
