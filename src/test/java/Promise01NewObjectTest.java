/** Promise 1: the IDs of a new object, and that all else in it is as the terms say "at first". */
public final class Promise01NewObjectTest {
    public static void main(String[] args) {
        ids(7, 30, 7, 37, 67, 97);
        ids(0, 1, 0, 1, 2, 3);
        ids(50, 40, 50, 90, 29, 69);
        ids(100, 100, 100, 99, 98, 97);
        ids(101, 1, 0, 1, 2, 3);
        ids(205, 105, 3, 7, 11, 15);

        // without their sign
        ids(-7, 30, 7, 37, 67, 97);
        ids(7, -30, 7, 37, 67, 97);
        ids(-7, -30, 7, 37, 67, 97);
        ids(-205, -105, 3, 7, 11, 15);

        // a step that 101 divides
        ids(7, 0, 0, 1, 2, 3);
        ids(50, 101, 0, 1, 2, 3);
        ids(99, -202, 0, 1, 2, 3);
        ids(7, 100, 7, 6, 5, 4);
        ids(7, 102, 7, 8, 9, 10);

        // 2147483648 is 34, and 2147483647 is 33, mod 101
        ids(Integer.MIN_VALUE, Integer.MIN_VALUE, 34, 68, 1, 35);
        ids(Integer.MAX_VALUE, Integer.MAX_VALUE, 33, 66, 99, 31);
        ids(Integer.MIN_VALUE, 0, 0, 1, 2, 3);

        Run.of("new", """
            about 0 0 = 0; about 0 1 = 0; about 0 2 = 0; about 0 3 = 0
            about 1 0 = 0; about 1 1 = 0; about 1 2 = 0; about 1 3 = 0
            about 2 0 = 0; about 2 1 = 0; about 2 2 = 0; about 2 3 = 0
            about 3 0 = -1; about 3 1 = -1; about 3 2 = -1; about 3 3 = -1
            about 4 0 = 0; about 4 1 = 0; about 4 2 = 0; about 4 3 = 0
            more 0 0 = 0; more 0 1 = 0; more 0 2 = 0; more 0 3 = 0
            more 1 0 = 0; more 1 1 = 0; more 1 2 = 0; more 1 3 = 0
            more 2 0 = 0; more 2 1 = 0; more 2 2 = 0; more 2 3 = 1
            more 4 0 = -1; more 4 1 = -1; more 4 2 = -1; more 4 3 = -1
            first 0 1 = -1; first 0 2 = -1; first 0 3 = -1; first 1 0 = -1; first 1 2 = -1; first 1 3 = -1
            first 2 0 = -1; first 2 1 = -1; first 2 3 = -1; first 3 0 = -1; first 3 1 = -1; first 3 2 = -1
            waiting 0 1 = 0; waiting 1 2 = 0; waiting 2 3 = 0; waiting 3 0 = 0
            count 0 = 0; count 1 = 0; count 2 = 0; count 3 = -1
            """);
        objectsShareNothing();
        Run.end();
    }

    private static void ids(int id, int step, int... due) {
        NodeServices services = new NodeServices(id, step);
        for (int node = 0; node < 4; node++) {
            Run.check("id " + id + ", step " + step + ": more(3, " + node + ")", services.more(3, node), due[node]);
        }
    }

    private static void objectsShareNothing() {
        Run used = new Run("used", 7, 30);
        Run other = new Run("other", 7, 30);
        String before = other.seen();
        used.calls("""
            want 0 1 = done; want 1 0 = done; want 1 2 = done; want 2 0 = done; want 2 3 = done
            start 2 = done; begin 3 = done; spread 3 0 = done; deliver 3 1 = 2
            """);
        Run.check("an object behind calls of another", other.seen(), before);
        Run.check("an object made behind calls of another", new Run("new", 7, 30).seen(), before);
    }
}
