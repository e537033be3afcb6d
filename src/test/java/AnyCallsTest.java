import java.util.Arrays;
import java.util.Random;

/** Whatever is called, no call throws, and answers and registers stay in their bounds. */
public final class AnyCallsTest {
    private static final int[] GREATEST = {65535, 65535, 65535, 65535, 65535, 3, 3, 65532, 65535, 31, 4095, 65535, 1};

    public static void main(String[] args) {
        Due due = new Due();
        Random random = new Random(17);
        for (int run = 0; run < 10000; run++) {
            run(due, random, run % 3 == 0 ? new RingMachine() : new Bench().x);
        }
        due.finish();
    }

    /** So few instructions that no object has more than its 512 calls. */
    private static void run(Due due, Random random, RingMachine x) {
        for (int i = 0; i < 60; i++) {
            x.poke(random.nextInt(2048), random.nextInt(256));
        }
        for (int i = 0; i < 12; i++) {
            if (random.nextInt(3) == 0) {
                change(random, x);
            }
            int[] before = registers(x);
            boolean down = before[12] == 1;
            int answer = instruction(random, x);
            int[] after = registers(x);
            due.yes("answer " + answer + (down ? " when down" : ""),
                    down ? answer == -1 : answer == 0 || answer == -2 || isFault(answer));
            due.yes("nothing is done when the answer is " + answer, answer >= 0 || Arrays.equals(before, after));
            for (int k = 0; k < after.length; k++) {
                due.yes("register " + k + " can be " + after[k], after[k] >= 0 && after[k] <= GREATEST[k]);
            }
        }
    }

    private static boolean isFault(int answer) {
        int vector = answer / 65536;
        return answer > 0 && vector >= 10 && vector <= 14;
    }

    private static int[] registers(RingMachine x) {
        int[] all = new int[GREATEST.length];
        for (int k = 0; k < all.length; k++) {
            all[k] = x.register(k);
        }
        return all;
    }

    private static int number(Random random) {
        switch (random.nextInt(4)) {
            case 0: return random.nextInt();
            case 1: return random.nextInt(5) - 1;
            case 2: return random.nextInt(4096);
            default: return random.nextInt(80);
        }
    }

    private static void change(Random random, RingMachine x) {
        x.pages(number(random), random.nextInt(4) == 0);
        x.tables(number(random), number(random), number(random));
        x.fill(number(random), random.nextLong());
        x.segment(number(random), number(random));
    }

    private static int instruction(Random random, RingMachine x) {
        int s = random.nextInt(5) - 1;
        int a = number(random);
        int b = number(random);
        switch (random.nextInt(9)) {
            case 0: return x.load(s, a);
            case 1: return x.read(s, a);
            case 2: return x.write(s, a, b);
            case 3: return x.push(a);
            case 4: return x.pop();
            case 5: return x.far(a, b, random.nextBoolean());
            case 6: return x.back();
            case 7: return x.trap(a);
            default: return x.end();
        }
    }
}
