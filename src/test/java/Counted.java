/** An object whose calls are counted, for the document promises nothing about a 513th call. */
final class Counted {
    static final int MOST_CALLS = 512;

    private final SignForms forms = new SignForms();
    private int calls = 0;

    private SignForms called() {
        calls++;
        if (calls > MOST_CALLS) {
            throw new IllegalStateException("a test asks for a call that nothing is promised about");
        }
        return forms;
    }

    int callsLeft() {
        return MOST_CALLS - calls;
    }

    boolean open(int stream, int form, int policy) {
        return called().open(stream, form, policy);
    }

    int put(int stream, long w, int n) {
        return called().put(stream, w, n);
    }

    int pour(int stream, int i, int n) {
        return called().pour(stream, i, n);
    }

    int end(int stream) {
        return called().end(stream);
    }

    int about(int stream, int what) {
        return called().about(stream, what);
    }

    int sign(int stream, int i) {
        return called().sign(stream, i);
    }

    int placed(int stream, int i, int what) {
        return called().placed(stream, i, what);
    }

    int at(int stream, int place) {
        return called().at(stream, place);
    }

    int write(int stream, int form, boolean marked) {
        return called().write(stream, form, marked);
    }

    int size(int stream, int form, int from, int to) {
        return called().size(stream, form, from, to);
    }

    int out(int i) {
        return called().out(i);
    }

    int check(int form) {
        return called().check(form);
    }

    int order(int first, int second, int way) {
        return called().order(first, second, way);
    }

    int among(int stream, int from, int to) {
        return called().among(stream, from, to);
    }
}
