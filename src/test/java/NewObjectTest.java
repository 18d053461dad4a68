/** Promise 1: a new object. */
public final class NewObjectTest {
    public static void main(String[] args) {
        acceptorsByF();
        allIsAsAtFirst();
        objectsAreApart();
        Checks.end();
    }

    private static void acceptorsByF() {
        Checks.about("PaxosCommit(int f): f 0: one ACCEPTOR, else three");
        int[] fs = {0, 1, 2, 3, -1, Integer.MAX_VALUE, Integer.MIN_VALUE};
        for (int f : fs) {
            Run x = new Run(f);
            Checks.due("n for f " + f, x.count(3), f == 0 ? 1 : 3);
            Checks.due("acceptors up for f " + f, x.count(5), f == 0 ? 1 : 7);
        }
    }

    private static void allIsAsAtFirst() {
        Checks.about("what is so at first");
        Run x = new Run(1);
        x.begin();
        for (int s = 0; s < 3; s++) {
            Checks.due("state", x.state(0, s), 0);
            for (int k = 0; k < 4; k++) {
                Checks.due("value", x.value(s, k), 0);
                Checks.due("lock", x.lock(s, k), -1);
            }
            for (int a = 0; a < 3; a++) {
                Checks.due("taken", x.taken(a, 0, s, false), -1);
                Checks.due("promised", x.taken(a, 0, s, true), 0);
            }
        }
        Checks.due("messages", x.count(0), 0);
        Checks.due("stores up", x.count(4), 7);
        Checks.due("leaders up", x.count(6), 3);
        Checks.due("leader 0 knows", x.known(0, 0), "-");
        Checks.due("leader 1 knows", x.known(1, 0), "-");
    }

    private static void objectsAreApart() {
        Checks.about("a new object has nothing of another");
        Run x = new Run(1);
        Run y = new Run(0);
        x.begin();
        x.write(0, 0, 0, 1);
        x.request(0);
        x.up(2, 1, false);
        Checks.due("the other has no transaction", y.count(2), 0);
        Checks.due("the other has no message", y.count(0), 0);
        Checks.due("the other has no lock", y.lock(0, 0), -1);
        Checks.due("the other's leaders", y.count(6), 3);
    }
}
