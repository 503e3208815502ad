/** An object under test that counts its calls: behind the 512th nothing is promised, so no test may go there. */
final class Counted {
    static final int MOST_CALLS = 512;

    private final AddressTerms terms = new AddressTerms();
    private int calls = 0;

    private AddressTerms next() {
        calls++;
        if (calls > MOST_CALLS) {
            throw new IllegalStateException("this test calls one object more than " + MOST_CALLS + " times");
        }
        return terms;
    }

    int callsLeft() {
        return MOST_CALLS - calls;
    }

    int type(long bytes, int n) {
        return next().type(bytes, n);
    }

    int resolve() {
        return next().resolve();
    }

    int base(int term) {
        return next().base(term);
    }

    int label(int number) {
        return next().label(number);
    }

    int literal(int sort) {
        return next().literal(sort);
    }

    int tagged(int a) {
        return next().tagged(a);
    }

    int prefix(int a) {
        return next().prefix(a);
    }

    int part(int a, int what) {
        return next().part(a, what);
    }

    int kind(int a) {
        return next().kind(a);
    }

    int sort(int a) {
        return next().sort(a);
    }

    int alike(int a, int b) {
        return next().alike(a, b);
    }

    int compare(int a, int b) {
        return next().compare(a, b);
    }

    int print(int a, int form) {
        return next().print(a, form);
    }

    int at(int i) {
        return next().at(i);
    }

    int count(int what) {
        return next().count(what);
    }
}
