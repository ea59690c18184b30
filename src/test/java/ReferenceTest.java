import java.util.Random;

/**
 * Runs of 512 calls, drawn by fixed seeds, on the program and on the model of the document: the first
 * ones use the office, the last ones read receivers, releases and packets.
 */
public final class ReferenceTest {
    private static final int RUNS = 600;

    private static final Check check = new Check();
    private static final int[] outcomes = new int[6];
    private static int releasedInAll = 0;
    private static int wrongCodesInAll = 0;
    private static int rootsInAll = 0;

    private final Random random;
    private final int run;
    private final Office office;
    private final OfficeModel model;
    private final int intervalTicks;
    /** How many receivers a run uses: few, so that much happens at each. */
    private final int receivers;
    private final boolean longSteps;
    private int newest = -1;

    private ReferenceTest(int run) {
        this.run = run;
        random = new Random(run);
        int lag = random.nextInt(16) - 4;
        int ticks = random.nextInt(3) == 0 ? random.nextInt() : random.nextInt(20);
        int error = random.nextInt(3) == 0 ? random.nextInt(200) : random.nextInt(5);
        intervalTicks = Math.floorMod(ticks, 1000) + 1;
        receivers = 1 + random.nextInt(4);
        longSteps = random.nextInt(3) == 0;
        office = new Office(lag, ticks, error);
        model = new OfficeModel(lag, ticks, error);
    }

    public static void main(String[] args) {
        for (int run = 0; run < RUNS; run++) {
            new ReferenceTest(run).go();
        }
        for (int i = 0; i < outcomes.length; i++) {
            check.is("outcome " + i + " is met often", 1, outcomes[i] > 50 ? 1 : 0);
        }
        check.is("releases are met often", 1, releasedInAll > 1000 ? 1 : 0);
        check.is("wrong codes are met often", 1, wrongCodesInAll > 100 ? 1 : 0);
        check.is("released roots are met often", 1, rootsInAll > 100 ? 1 : 0);
        check.end("ReferenceTest");
    }

    private void go() {
        int begin = random.nextInt(4) == 0 ? 0 : 1 + random.nextInt(8);
        for (int c = 0; c < begin; c++) {
            int a = random.nextInt();
            same("chain", () -> office.chain(a, c(1), c(2), c(3), c(4)),
                    () -> model.chain(a, c(1), c(2), c(3), c(4)));
        }
        if (random.nextBoolean()) {
            int n = Math.max(1, Math.min(100000, random.nextInt(150) * intervalTicks));
            same("tick", () -> office.tick(n), () -> model.tick(n));
        }
        for (int r = 0; r < receivers; r++) {
            join(r);
        }
        int toRead = 60 + random.nextInt(200);
        while (office.left() > toRead) {
            step();
        }
        for (int r = 0; r < receivers; r++) {
            int of = r;
            for (int what = 0; what < 10; what++) {
                int w = what;
                same("receiver " + what, () -> office.receiver(of, w), () -> model.receiver(of, w));
            }
            releasedInAll += model.receiver(r, 7);
            wrongCodesInAll += model.receiver(r, 6);
            for (int k = 0; k < Math.min(100, model.receiver(r, 7)); k++) {
                rootsInAll += model.released(r, k, 1);
            }
        }
        while (office.left() > 0) {
            if (random.nextBoolean()) {
                lookAtReleased(random.nextInt(receivers));
            } else {
                lookAtPacket();
            }
        }
    }

    private static int c(int i) {
        return i * 0x01234567;
    }

    /** One of the answers about a drawn release, most often of one that is there. */
    private void lookAtReleased(int r) {
        int k = random.nextInt(model.receiver(r, 7) + 2);
        int i = random.nextInt(36) - 3;
        if (i < 0) {
            int what = i + 3;
            same("released", () -> office.released(r, k, what), () -> model.released(r, k, what));
        } else {
            same("releasedByte", () -> office.releasedByte(r, k, i), () -> model.releasedByte(r, k, i));
        }
    }

    private void lookAtPacket() {
        int p = random.nextInt(model.count(3) + 1);
        int i = random.nextInt(70);
        same("packet", () -> office.packet(p, i), () -> model.packet(p, i));
    }

    private void join(int r) {
        int now = model.count(1);
        int g = random.nextInt(8) == 0 ? random.nextInt(514) - 1 : Math.max(0, now - 1 - random.nextInt(12));
        same("join " + r + " " + g, () -> {
            office.join(r, g);
            return 0;
        }, () -> {
            model.join(r, g);
            return 0;
        });
    }

    private void step() {
        int draw = random.nextInt(100);
        int r = random.nextInt(40) == 0 ? random.nextInt(10) - 1 : random.nextInt(receivers);
        if (draw < 22) {
            int n = random.nextInt(30) == 0 ? random.nextInt(36) - 2 : random.nextInt(33);
            newest = same("send " + n, () -> office.send(n), () -> model.send(n));
        } else if (draw < 28) {
            newest = same("root", () -> office.root(), () -> model.root());
        } else if (draw < 40) {
            int most = longSteps && random.nextInt(4) == 0 ? 40 * intervalTicks : 2 * intervalTicks;
            int n = random.nextInt(30) == 0 ? random.nextInt(100005) - 2 : 1 + random.nextInt(most);
            same("tick " + n, () -> office.tick(n), () -> model.tick(n));
        } else if (draw < 78) {
            arrive(r);
        } else if (draw < 80) {
            int drift = random.nextInt(20) == 0 ? random.nextInt(30001) - 15000
                    : random.nextInt(8 * intervalTicks + 1) - 4 * intervalTicks;
            same("drift", () -> office.drift(r, drift), () -> model.drift(r, drift));
        } else if (draw < 81) {
            join(r);
        } else if (draw < 85) {
            int i = random.nextInt(10) - 1;
            int word = random.nextInt();
            same("load", () -> office.load(i, word), () -> model.load(i, word));
        } else {
            look(draw, r);
        }
    }

    private void arrive(int r) {
        int all = model.count(3);
        int p = random.nextInt(3) > 0 ? newest : Math.max(0, all - 1 - random.nextInt(12));
        int length = p >= 0 && p < all ? 36 + model.packet(p, 5) : 36;
        int i = random.nextInt(60) == 0 ? random.nextInt(74) - 2 : random.nextInt(length);
        if (random.nextInt(8) == 0) {
            i = 2 + random.nextInt(4);
        }
        int at = i;
        int draw = random.nextInt(10);
        int mask = draw < 7 ? 0 : draw == 7 ? 1 << random.nextInt(4) : random.nextInt(260) - 2;
        int outcome = same("arrive " + r + " " + p + " " + i + " " + mask,
                () -> office.arrive(r, p, at, mask), () -> model.arrive(r, p, at, mask));
        if (outcome >= 0) {
            outcomes[outcome]++;
        }
    }

    private void look(int draw, int r) {
        int a = random.nextInt(12) - 1;
        int b = random.nextInt(36) - 2;
        if (draw < 90) {
            same("receiver " + a, () -> office.receiver(r, a), () -> model.receiver(r, a));
        } else if (draw < 92) {
            int g = random.nextInt(516) - 2;
            same("key " + g, () -> office.key(g, b), () -> model.key(g, b));
        } else if (draw < 94) {
            same("digest", () -> office.digest(b, a), () -> model.digest(b, a));
        } else if (draw < 96) {
            same("count", () -> office.count(a), () -> model.count(a));
        } else if (draw < 98) {
            same("released", () -> office.released(r, b, a % 4), () -> model.released(r, b, a % 4));
        } else if (draw < 99) {
            same("releasedByte", () -> office.releasedByte(r, a, b), () -> model.releasedByte(r, a, b));
        } else {
            same("chain", () -> office.chain(a, b, c(a), c(b), run), () -> model.chain(a, b, c(a), c(b), run));
        }
    }

    /** What both answer; -1 if they throw. */
    private int same(String what, Check.Call call, Check.Call due) {
        String name = "run " + run + ": " + what;
        long want;
        try {
            want = due.answer();
        } catch (RuntimeException e) {
            check.fails(name, e.getClass(), call::answer);
            return -1;
        }
        check.answers(name, want, call);
        return (int) want;
    }
}
