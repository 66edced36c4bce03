import java.util.Random;

/** Runs at random, always the same ones, on the class and the model. */
public final class RandomRunsTest {
    private static final int RUNS = Integer.getInteger("runs", 6000);
    private static final int[] FAULTS = new int[3];
    private static final int[] STATES = new int[6];
    private static int madeOthers;

    public static void main(String[] args) {
        int wrong = 0;
        for (int seed = 0; seed < RUNS && wrong == 0; seed++) {
            wrong += oneRun(new Random(Integer.getInteger("seed", 0) + seed));
        }
        System.out.println("faults " + FAULTS[0] + " " + FAULTS[1] + " " + FAULTS[2] + ", terms made others " + madeOthers);
        System.out.println("number " + STATES[1] + ", function " + STATES[2] + ", pair " + STATES[3] + ", raised " + STATES[4] + ", tired " + STATES[5]);
        System.out.println(wrong == 0 ? "1 passed, 0 failed" : "0 passed, 1 failed");
        if (wrong != 0) {
            System.exit(1);
        }
    }

    private static int oneRun(Random random) {
        Both both = new Both();
        Telling telling = new Telling(random);
        both.lookAround();
        for (int programs = 0; programs < 6 && both.wrong == 0; programs++) {
            both.tell(term(telling, random));
            if (random.nextInt(8) == 0) {
                tellAnything(both, random);
            }
            both.program();
            both.lookAround();
            both.lookAtType();
            if (both.model.wrong >= 0) {
                FAULTS[both.model.wrong]++;
            }
            both.lookAtOrders();
            useProgram(both, random);
        }
        return both.wrong;
    }

    private static Model.Tree term(Telling telling, Random random) {
        int budget = 2 + random.nextInt(58);
        switch (random.nextInt(9)) {
            case 0:
                return telling.wild(3 + random.nextInt(25));
            case 1:
                return telling.growing();
            case 2:
                return telling.deep();
            case 3:
                return telling.broad();
            case 4:
                return telling.sized();
            default:
                return telling.typed(budget);
        }
    }

    private static void tellAnything(Both both, Random random) {
        for (int i = 0; i < 25; i++) {
            int name = random.nextInt(12) - 1;
            switch (random.nextInt(14)) {
                case 0 -> both.function(name);
                case 1 -> both.call();
                case 2 -> both.two(random.nextInt(6) - 1);
                case 3 -> both.choose();
                case 4 -> both.let(name);
                case 5 -> both.rec(name, random.nextInt(12) - 1);
                case 6 -> both.pair();
                case 7 -> both.half(random.nextBoolean());
                case 8 -> both.raise();
                case 9 -> both.handle(name);
                case 10 -> both.number(random.nextLong());
                default -> both.name(name);
            }
        }
    }

    private static void useProgram(Both both, Random random) {
        for (int i = 0; i < 12 && both.wrong == 0; i++) {
            int before = both.model.made;
            switch (random.nextInt(8)) {
                case 0 -> both.optimise(random.nextInt(18) - 1);
                case 1 -> both.optimise(15);
                case 2 -> both.again();
                case 3 -> both.stop(random.nextInt(30) - 1, random.nextBoolean());
                case 4 -> both.go(random.nextInt(20));
                case 5 -> both.go(1 + random.nextInt(300));
                default -> both.go(1990 + random.nextInt(12));
            }
            both.lookAround();
            if (both.model.made != before) {
                madeOthers += both.model.made;
                both.lookAtType();
            }
            STATES[both.model.state]++;
        }
        both.lookAtOrders();
    }
}
