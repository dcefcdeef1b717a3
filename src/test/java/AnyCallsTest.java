import java.util.Random;

/** Any calls with any arguments, on any program: nothing is thrown, and the answers keep to their ranges. */
final class AnyCallsTest {
    private static final int[] ODD = {0, 1, -1, 2, 3, 4, 5, 7, 8, 24, 25, 26, 39, 40, 63, 64, 100, 101, 255, 256,
        1023, 1024, 4095, 4096, 10000, 10001, 65535, 65536, Integer.MAX_VALUE, Integer.MIN_VALUE};

    public static void main(String[] args) {
        for (int seed = 0; seed < 300; seed++) {
            String first = run(seed);
            if (seed % 10 == 0) {
                Check.same("the same calls again, seed " + seed, run(seed), first);
            }
        }
        Check.end();
    }

    private static int any(Random random) {
        return random.nextInt(3) == 0 ? ODD[random.nextInt(ODD.length)] : random.nextInt(30);
    }

    private static String run(int seed) {
        Random random = new Random(seed);
        HomeComputer x = new HomeComputer();
        for (int k = 0; k < 150; k++) {
            x.load(random.nextInt(), random.nextInt(), 1 + random.nextInt(4));
        }
        StringBuilder answers = new StringBuilder();
        for (int k = 0; k < 350; k++) {
            answers.append(call(x, random)).append(' ');
        }
        return answers.toString();
    }

    private static int call(HomeComputer x, Random random) {
        switch (random.nextInt(12)) {
            case 0:
                x.poke(any(random), any(random));
                return 0;
            case 1:
                return x.load(any(random), random.nextInt(), any(random)) ? 1 : 0;
            case 2:
                return within("peek", x.peek(any(random)), 0, 255);
            case 3:
                return x.set(any(random), random.nextInt()) ? 1 : 0;
            case 4:
                return within("register", x.register(any(random)), -1, 65535);
            case 5:
                return x.key(any(random), any(random), random.nextBoolean()) ? 1 : 0;
            case 6:
                return x.pulse(any(random)) ? 1 : 0;
            case 7:
                return x.tape(any(random)) ? 1 : 0;
            case 8:
                return within("step", x.step(any(random)), -1, 100 * 80);
            case 9:
                return within("frame", x.frame(), 1, 1024);
            case 10:
                return within("look", x.look(any(random)), -1, 4095 * 350);
            default:
                return within("stripe", x.stripe(any(random)), -1, 7);
        }
    }

    private static int within(String name, int answer, int least, int most) {
        Check.yes(name + " answered " + answer, answer >= least && answer <= most);
        return answer;
    }
}
