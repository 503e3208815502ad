/** The sentence on the 512 calls, and that no call throws, not even behind them. */
public final class EdgeCallsTest {
    private static final Sheet s = new Sheet();

    public static void main(String[] args) {
        theLastPromisedCall();
        everyCallAtOnce();
        noCallThrowsLater();
        s.end();
    }

    private static void theLastPromisedCall() {
        s.sentence("An object is used for at most 512 calls after it has been made");
        s.due("label(7)", s.x.label(7), 0);
        s.due("print(0, 0)", s.x.print(0, 0), 4);
        while (s.x.callsLeft() > 3) {
            s.due("at(3)", s.x.at(3), '7');
        }
        s.due("call 510", s.x.type('a', 1), 1);
        s.due("call 511", s.x.literal(0), 1);
        s.due("call 512", s.x.kind(1), 2);
    }

    private static void everyCallAtOnce() {
        s.sentence("An object is used for at most 512 calls");
        int first = s.address("a:b");
        for (int i = 0; i < 60; i++) {
            s.due("again", s.address("a:b"), first);
        }
        for (int i = 1; i < 60; i++) {
            s.due("label(" + i + ")", s.x.label(i), i);
        }
        while (s.x.callsLeft() > 1) {
            s.due("61st", s.x.label(60), Sheet.FULL);
        }
        s.due("call 512", s.x.count(0), 60);
    }

    /** What later calls answer is free, but each has to come back. */
    private static void noCallThrowsLater() {
        s.sentence("what later calls answer is free");
        AddressTerms x = new AddressTerms();
        int[] numbers = {0, 1, 2, 59, 60, 96, 512, -1, -2, Integer.MIN_VALUE, Integer.MAX_VALUE};
        for (int round = 0; round < 200; round++) {
            for (int a : numbers) {
                for (int b : numbers) {
                    x.type(0x613A622F2E2E2F2FL + round, b);
                    callAll(x, a, b);
                }
            }
        }
        s.due("all came back", 1, 1);
    }

    private static void callAll(AddressTerms x, int a, int b) {
        if (a % 2 == 0) {
            x.resolve();
        }
        x.base(b);
        x.label(a);
        if (b % 2 == 0) {
            x.literal(a);
        }
        x.tagged(a);
        x.prefix(b);
        x.part(a, b);
        x.kind(a);
        x.sort(b);
        x.alike(a, b);
        x.compare(a, b);
        x.print(a, b);
        x.at(a);
        x.count(b);
    }
}
