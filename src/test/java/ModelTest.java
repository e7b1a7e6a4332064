import java.util.Random;

/** Long runs of chosen calls, each of at most 512: WideNet must answer as the model does. */
public final class ModelTest {
    private static final int RUNS = 1500;
    /** What is left for a last look around when a run of changing calls ends. */
    private static final int LAST_LOOK = 110;
    private static final int[] ODD = {-1, 3, 4, 8, 12, 13, 51, Integer.MIN_VALUE, Integer.MAX_VALUE};

    private final Random random;
    private final Net net;
    private final Model model;
    private final int run;
    private boolean same = true;

    private ModelTest(int run) {
        this.run = run;
        random = new Random(run);
        int seed = random.nextInt(4) == 0 ? random.nextInt() : random.nextInt(400) - 200;
        net = new Net(seed);
        model = new Model(seed);
    }

    public static void main(String[] args) {
        Due.by("Promises 1 to 19, in long runs");
        int[] reached = new int[6];
        for (int run = 0; run < RUNS; run++) {
            ModelTest test = new ModelTest(run);
            test.go();
            for (int d = 0; d < 3; d++) {
                for (int what = 0; what < 4; what++) {
                    reached[what] += test.model.tally(d, what);
                }
                reached[4] += test.model.received(d, true);
                reached[5] += test.model.received(d, false);
            }
        }
        String[] names = {"acknowledged", "failed", "checked", "sessions", "received up", "received down"};
        for (int i = 0; i < names.length; i++) {
            System.out.println("the runs came to " + reached[i] + " " + names[i]);
            Due.is("some " + names[i] + " in every other run", reached[i] >= RUNS / 2, true);
        }
        Due.end();
    }

    private void go() {
        while (room(LAST_LOOK + 50) && same) {
            int kind = random.nextInt(30);
            if (kind < 10) {
                exchange(random.nextInt(3));
            } else if (kind == 10) {
                forge();
            } else {
                step();
            }
            glance();
            glance();
        }
        while (room(4) && same) {
            glance();
        }
        Due.is("run " + run + " is the model's", same, true);
    }

    private boolean room(int calls) {
        return net.calls() + calls <= Net.MOST_CALLS;
    }

    /** A number that mostly is one of 0 .. below - 1, and now and then is none of them. */
    private int about(int below) {
        if (random.nextInt(30) == 0 || below <= 0) {
            return random.nextBoolean() ? below : ODD[random.nextInt(ODD.length)];
        }
        return random.nextInt(below);
    }

    private void same(String what, long got, long want) {
        if (got != want && same) {
            same = false;
            Due.is("run " + run + ", call " + net.calls() + ", " + what, got, want);
        }
    }

    private void same(String what, boolean got, boolean want) {
        same(what, got ? 1 : 0, want ? 1 : 0);
    }

    private void step() {
        int d = about(3);
        int k = about(model.frames());
        long payload = random.nextBoolean() ? random.nextLong() : random.nextInt(300);
        int n = about(9);
        int kind = random.nextInt(100);
        if (kind < 8) {
            // A device that is in stays there for a while, so that its session comes to something.
            if (model.state(d) != 2 || random.nextInt(12) == 0) {
                join(d);
            }
        } else if (kind < 26) {
            send(d, payload, n);
        } else if (kind < 29) {
            int by = random.nextInt(3) == 0 ? 64000 + random.nextInt(6003) : random.nextInt(40) - 1;
            same("skip", net.skip(d, by), model.skip(d, by));
        } else if (kind < 36) {
            same("queue", net.queue(d, payload, n), model.queue(d, payload, n));
        } else if (kind < 50) {
            int ticks = random.nextInt(8) == 0 ? random.nextInt(54) - 1 : 1;
            same("tick", net.tick(ticks), model.tick(ticks));
        } else if (kind < 68) {
            int g = about(2);
            same("hear", net.hear(k, g), model.hear(k, g));
        } else if (kind < 82) {
            same("reach", net.reach(k), model.reach(k));
        } else if (kind < 89) {
            same("lose", net.lose(k), model.lose(k));
        } else if (kind < 95) {
            int j = about(8);
            same("replay", net.replay(j), model.replay(j));
        } else {
            spoil(k);
        }
    }

    private void join(int d) {
        same("join", net.join(d), model.join(d));
    }

    private void send(int d, long payload, int n) {
        boolean confirmed = random.nextBoolean();
        boolean check = random.nextInt(3) == 0;
        same("send", net.send(d, payload, n, confirmed, check), model.send(d, payload, n, confirmed, check));
    }

    /** What mostly happens on the air: a frame up is heard, and what comes down soon reaches its device. */
    private void exchange(int d) {
        while (model.frames() > 3 + random.nextInt(7)) {
            same("lose", net.lose(0), model.lose(0));
        }
        if (random.nextInt(3) == 0) {
            long payload = random.nextLong();
            int n = 1 + random.nextInt(8);
            same("queue", net.queue(d, payload, n), model.queue(d, payload, n));
        }
        if (model.state(d) == 0) {
            join(d);
        } else if (model.state(d) == 2) {
            send(d, random.nextLong(), random.nextInt(9));
        }
        glance();
        for (int g = 0; g < 2; g++) {
            if (random.nextInt(4) > 0) {
                int k = model.frames() - 1;
                same("hear", net.hear(k, g), model.hear(k, g));
            }
        }
        same("tick", net.tick(1), model.tick(1));
        glance();
        if (random.nextInt(4) > 0) {
            int k = model.frames() - 1;
            same("reach", net.reach(k), model.reach(k));
        }
    }

    private void spoil(int k) {
        int i = about(model.length(k));
        int x = random.nextInt(10) == 0 ? random.nextInt(520) - 130 : 1 << random.nextInt(8);
        same("spoil", net.spoil(k, i, x), model.spoil(k, i, x));
        if (random.nextBoolean()) {
            same("hear a spoiled one", net.hear(k, 0), model.hear(k, 0));
            same("spoil back", net.spoil(k, i, x), model.spoil(k, i, x));
        }
    }

    /** A frame under way is spoiled, byte by byte, into one whose code is right, and comes to its goal. */
    private void forge() {
        if (model.frames() == 0) {
            return;
        }
        int k = random.nextInt(model.frames());
        boolean up = model.goal(k) == 3;
        int[] heads = up ? new int[] {64, 128, 128, 96} : new int[] {96, 96, 96, 64};
        int control = random.nextInt(16) * 16 + random.nextInt(4);
        long[] more = {-1, 0, 1, 2, 65535, 65536, 65537};
        byte[] want = model.forged(k, random.nextInt(3), heads[random.nextInt(4)], control,
            more[random.nextInt(more.length)]);
        if (want == null) {
            return;
        }
        for (int i = 0; i < want.length; i++) {
            int x = model.octet(k, i) ^ (want[i] & 255);
            if (x != 0) {
                same("spoil", net.spoil(k, i, x), model.spoil(k, i, x));
            }
        }
        if (up) {
            int g = random.nextInt(2);
            same("hear a forged one", net.hear(k, g), model.hear(k, g));
        } else {
            same("reach with a forged one", net.reach(k), model.reach(k));
        }
    }

    /** A look at something, which changes nothing. */
    private void glance() {
        int d = about(3);
        int k = about(model.frames());
        boolean up = random.nextBoolean();
        switch (random.nextInt(10)) {
            case 0 -> same("frames", net.frames(), model.frames());
            case 1 -> same("length", net.length(k), model.length(k));
            case 2 -> same("goal", net.goal(k), model.goal(k));
            case 3 -> same("state", net.state(d), model.state(d));
            case 4 -> same("received", net.received(d, up), model.received(d, up));
            case 5 -> {
                int i = model.received(d, up) - 6 + random.nextInt(8);
                same("payload", net.payload(d, up, i), model.payload(d, up, i));
            }
            case 6 -> {
                int what = about(4);
                same("tally", net.tally(d, what), model.tally(d, what));
            }
            default -> {
                int i = about(model.length(k));
                same("octet", net.octet(k, i), model.octet(k, i));
            }
        }
    }
}
