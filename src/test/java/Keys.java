/** A CitationKeys that is asked no more often than the document lets an object be asked. */
final class Keys {
    private static final int MOST_CALLS = 512;

    private final CitationKeys inside = new CitationKeys();
    private int calls = 0;

    // An Error, so that no test takes it for an answer of the class.
    private CitationKeys asked() {
        calls++;
        if (calls > MOST_CALLS) {
            throw new AssertionError("the test makes call " + calls + " of one object");
        }
        return inside;
    }

    int append(int c) {
        return asked().append(c);
    }

    int clearText() {
        return asked().clearText();
    }

    int errorPosition() {
        return asked().errorPosition();
    }

    int load() {
        return asked().load();
    }

    int about(int what) {
        return asked().about(what);
    }

    int work(int i, int what) {
        return asked().work(i, what);
    }

    int letter(int i, int a, int k) {
        return asked().letter(i, a, k);
    }

    int key(int i, int k) {
        return asked().key(i, k);
    }

    int at(int place) {
        return asked().at(place);
    }

    int meaning() {
        return asked().meaning();
    }

    int printedMeaning() {
        return asked().printedMeaning();
    }

    int printed(int what) {
        return asked().printed(what);
    }

    int add() {
        return asked().add();
    }

    int change(int i) {
        return asked().change(i);
    }

    int setYear(int i, int year) {
        return asked().setYear(i, year);
    }

    int remove(int i) {
        return asked().remove(i);
    }

    int setStyle(int style) {
        return asked().setStyle(style);
    }

    int setOrder(int order) {
        return asked().setOrder(order);
    }

    int print() {
        return asked().print();
    }

    int undo() {
        return asked().undo();
    }

    int ifRemoved(int i) {
        return asked().ifRemoved(i);
    }

    int freeYear(int i) {
        return asked().freeYear(i);
    }

    int lettersWith(int style) {
        return asked().lettersWith(style);
    }

    int bestStyle() {
        return asked().bestStyle();
    }

    int weightiest() {
        return asked().weightiest();
    }

    int runScript(int n, long script) {
        return asked().runScript(n, script);
    }

    int simulate(long seed, int m) {
        return asked().simulate(seed, m);
    }

    int save(int slot) {
        return asked().save(slot);
    }

    int restore(int slot) {
        return asked().restore(slot);
    }
}
