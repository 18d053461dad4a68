/** Promise 1: a new object. */
public final class NewObjectTest {
    public static void main(String[] args) {
        acceptorsByF();
        allIsAsAtFirst();
        objectsAreApart();
        Checks.end();
    }

    private static void acceptorsByF() {
        int[] fs = {0, 1, 2, 3, -1, Integer.MAX_VALUE, Integer.MIN_VALUE};
        for (int f : fs) {
            PaxosCommit x = new PaxosCommit(f);
            Checks.due("n for f " + f, x.count(3), f == 0 ? 1 : 3);
            Checks.due("acceptors up for f " + f, x.count(5), f == 0 ? 1 : 7);
        }
    }

    private static void allIsAsAtFirst() {
        PaxosCommit x = new PaxosCommit(1);
        x.begin();
        for (int s = 0; s < 3; s++) {
            Checks.due("state", x.state(0, s), 0);
            for (int k = 0; k < 4; k++) {
                Checks.due("value", x.value(s, k), 0);
                Checks.due("lock", x.lock(s, k), -1);
            }
            for (int a = 0; a < 3; a++) {
                Checks.due("taken", x.taken(a, 0, s, false), -1);
                Checks.due("promised", x.taken(a, 0, s, true), 0);
            }
        }
        Checks.due("messages", x.count(0), 0);
        Checks.due("stores up", x.count(4), 7);
        Checks.due("leaders up", x.count(6), 3);
        Checks.due("leader 0 knows", Checks.known(x, 0, 0), "-");
        Checks.due("leader 1 knows", Checks.known(x, 1, 0), "-");
    }

    private static void objectsAreApart() {
        PaxosCommit x = new PaxosCommit(1);
        PaxosCommit y = new PaxosCommit(0);
        x.begin();
        x.write(0, 0, 0, 1);
        x.request(0);
        x.up(2, 1, false);
        Checks.due("the other has no transaction", y.count(2), 0);
        Checks.due("the other has no message", y.count(0), 0);
        Checks.due("the other has no lock", y.lock(0, 0), -1);
        Checks.due("the other's leaders", y.count(6), 3);
    }
}
