/**
 * Promise 1: "if step is not divisible by 101; else 0, 1, 2, 3. (id and step are taken without their sign, mod 101.)",
 * on both sides of the multiples of 101 and at the ends of int.
 */
public final class EdgeNewObjectTest {
    /** The greatest int that 101 divides. */
    private static final int GREATEST_MULTIPLE = 2147483614;

    private static final int[] NUMBERS = {
        0, 1, 2, 33, 34, 35, 49, 50, 51, 66, 67, 99, 100, 101, 102, 103, 200, 201, 202, 203, 302, 303, 304, 10099, 10100,
        10200, 10201, 10202, 1000000, 1 << 16, 1 << 30, 1073741824 + 1,
        GREATEST_MULTIPLE - 101, GREATEST_MULTIPLE - 1, GREATEST_MULTIPLE, GREATEST_MULTIPLE + 1,
        Integer.MAX_VALUE - 2, Integer.MAX_VALUE - 1, Integer.MAX_VALUE
    };

    public static void main(String[] args) {
        stepDivisibleOrNot();
        withoutTheirSign();
        modEach();
        endsOfInt();
        everyPair();
        idsMeetInTheElection();
        Run.end();
    }

    private static void ids(int id, int step, int... due) {
        NodeServices services = new NodeServices(id, step);
        for (int node = 0; node < 4; node++) {
            Run.check("id " + id + ", step " + step + ": more(3, " + node + ")", services.more(3, node), due[node]);
        }
    }

    private static void stepDivisibleOrNot() {
        for (int id : new int[] {0, 1, 50, 100, 101, -50, Integer.MIN_VALUE, Integer.MAX_VALUE}) {
            for (int step : new int[] {0, 101, -101, 202, -202, 10201, -10201, GREATEST_MULTIPLE, -GREATEST_MULTIPLE}) {
                ids(id, step, 0, 1, 2, 3);
            }
        }
        ids(50, 1, 50, 51, 52, 53);
        ids(50, -1, 50, 51, 52, 53);
        ids(50, 100, 50, 49, 48, 47);
        ids(50, -100, 50, 49, 48, 47);
        ids(50, 102, 50, 51, 52, 53);
        ids(50, -102, 50, 51, 52, 53);
        ids(50, 201, 50, 49, 48, 47);
        ids(50, 203, 50, 51, 52, 53);
        ids(50, GREATEST_MULTIPLE - 1, 50, 49, 48, 47);
        ids(50, GREATEST_MULTIPLE + 1, 50, 51, 52, 53);
        ids(50, -GREATEST_MULTIPLE + 1, 50, 49, 48, 47);
        ids(50, -GREATEST_MULTIPLE - 1, 50, 51, 52, 53);
    }

    private static void withoutTheirSign() {
        ids(5, 2, 5, 7, 9, 11);
        ids(-5, 2, 5, 7, 9, 11);
        ids(5, -2, 5, 7, 9, 11);
        ids(-5, -2, 5, 7, 9, 11);
        ids(-1, 1, 1, 2, 3, 4);
        ids(0, -1, 0, 1, 2, 3);
        ids(-100, -100, 100, 99, 98, 97);
        ids(-101, 7, 0, 7, 14, 21);
        ids(-102, 7, 1, 8, 15, 22);
    }

    private static void modEach() {
        ids(98, 1, 98, 99, 100, 0);
        ids(97, 1, 97, 98, 99, 100);
        ids(100, 1, 100, 0, 1, 2);
        ids(101, 1, 0, 1, 2, 3);
        ids(102, 1, 1, 2, 3, 4);
        ids(0, 33, 0, 33, 66, 99);
        ids(0, 34, 0, 34, 68, 1);
        ids(0, 50, 0, 50, 100, 49);
        ids(0, 51, 0, 51, 1, 52);
        ids(1, 50, 1, 51, 0, 50);
    }

    /** 2147483648 is 34 mod 101, 2147483647 is 33, 2147483646 is 32. */
    private static void endsOfInt() {
        ids(Integer.MIN_VALUE, 1, 34, 35, 36, 37);
        ids(Integer.MIN_VALUE + 1, 1, 33, 34, 35, 36);
        ids(Integer.MAX_VALUE, 1, 33, 34, 35, 36);
        ids(Integer.MAX_VALUE - 1, 1, 32, 33, 34, 35);
        ids(0, Integer.MIN_VALUE, 0, 34, 68, 1);
        ids(0, Integer.MIN_VALUE + 1, 0, 33, 66, 99);
        ids(0, Integer.MAX_VALUE, 0, 33, 66, 99);
        ids(0, Integer.MAX_VALUE - 1, 0, 32, 64, 96);
        ids(Integer.MIN_VALUE, Integer.MIN_VALUE, 34, 68, 1, 35);
        ids(Integer.MIN_VALUE, Integer.MAX_VALUE, 34, 67, 100, 32);
        ids(Integer.MAX_VALUE, Integer.MIN_VALUE, 33, 67, 0, 34);
        ids(Integer.MAX_VALUE, Integer.MAX_VALUE, 33, 66, 99, 31);
    }

    private static void everyPair() {
        for (int id : NUMBERS) {
            for (int step : NUMBERS) {
                int[] due = {0, 1, 2, 3};
                if (step % 101 != 0) {
                    for (int node = 0; node < 4; node++) {
                        due[node] = (int) ((id + (long) node * step) % 101);
                    }
                }
                ids(id, step, due);
                ids(-id, step, due);
                ids(id, -step, due);
                ids(-id, -step, due);
            }
        }
    }

    /** What the election compares is what more tells: node 0's ID against node 1's, whichever is the greater. */
    private static void idsMeetInTheElection() {
        for (int id : NUMBERS) {
            for (int step : new int[] {1, 50, 51, 100, 101, Integer.MIN_VALUE, Integer.MAX_VALUE}) {
                Run run = new Run("IDs of " + id + ", " + step + " in the election", id, step);
                int zero = Integer.parseInt(run.answer("more 3 0"));
                int one = Integer.parseInt(run.answer("more 3 1"));
                run.calls("start 1 = done; start 0 = done; more 3 0 = " + (zero + 1000) + "; deliver 0 1 = 3");
                run.calls("waiting 1 2 = " + (zero > one ? 2 : 1) + "; more 3 1 = " + (one + 1000));
            }
        }
    }
}
