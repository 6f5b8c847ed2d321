import java.util.List;
import java.util.function.ToLongFunction;

/** Each promise of the document by examples: ordinary inputs, the edges that it names, and wrong inputs. */
public final class PromiseTests {
    private static final int NONE = -9;
    private static final int GONE = -2;
    private static final Class<?> INDEX = IndexOutOfBoundsException.class;
    private static final Class<?> ARGUMENT = IllegalArgumentException.class;
    private static final Class<?> STATE = IllegalStateException.class;
    private static final int[] FAR = {Integer.MIN_VALUE, -1, Integer.MAX_VALUE};

    private final Checks checks = new Checks();

    public static void main(String[] args) {
        PromiseTests tests = new PromiseTests();
        tests.newObject();
        tests.append();
        tests.clearText();
        tests.errorPosition();
        tests.errorPositionOfEveryBeginning();
        tests.load();
        tests.loadForgets();
        tests.about();
        tests.work();
        tests.letter();
        tests.key();
        tests.keyOfEveryStyle();
        tests.at();
        tests.atInBothOrders();
        tests.meaning();
        tests.printedMeaning();
        tests.printed();
        tests.add();
        tests.change();
        tests.setYear();
        tests.remove();
        tests.setStyle();
        tests.setOrder();
        tests.print();
        tests.undo();
        tests.undoOfEveryAction();
        tests.ifRemoved();
        tests.freeYear();
        tests.lettersWith();
        tests.bestStyle();
        tests.weightiest();
        tests.runScript();
        tests.runScriptRefuses();
        tests.simulate();
        tests.save();
        tests.restore();
        tests.checks.end();
    }

    private void due(String what, Object got, Object want) {
        checks.due(what, got, want);
    }

    private void newObject() {
        checks.part("promise 1");
        Keys x = new Keys();
        for (int what = 0; what <= 7; what++) {
            due("about(" + what + ")", x.about(what), 0);
        }
        due("errorPosition()", x.errorPosition(), 0);
        due("at(0)", x.at(0), NONE);
        checks.thrown("undo()", STATE, () -> x.undo());
        checks.thrown("restore(0)", STATE, () -> x.restore(0));
        checks.thrown("restore(1)", STATE, () -> x.restore(1));
        due("clearText()", x.clearText(), 0);
    }

    private void append() {
        checks.part("promise 2");
        Keys x = new Keys();
        due("append(0)", x.append(0), 1);
        due("append(255)", x.append(255), 2);
        for (int c : new int[] {-1, 256, Integer.MIN_VALUE, Integer.MAX_VALUE, 256 + 'a'}) {
            checks.thrown("append(" + c + ")", ARGUMENT, () -> x.append(c));
        }
        due("append(97)", x.append('a'), 3);
        for (int n = 4; n <= 100; n++) {
            due("append(97)", x.append('a'), n);
        }
        checks.thrown("append to the full text", STATE, () -> x.append('a'));
        checks.thrown("append(256) to the full text", ARGUMENT, () -> x.append(256));
        due("clearText()", x.clearText(), 100);
    }

    private void clearText() {
        checks.part("promise 3");
        Keys x = new Keys();
        due("clearText()", x.clearText(), 0);
        Checks.write(x, "ab:1998:c");
        due("clearText()", x.clearText(), 9);
        due("clearText()", x.clearText(), 0);
        due("errorPosition()", x.errorPosition(), 0);
        due("append(97)", x.append('a'), 1);
        Keys y = Checks.loaded("ab:1998:c");
        y.clearText();
        due("keys behind clearText()", Checks.keys(y), "ab98");
    }

    private void errors(String text, int want) {
        due("errorPosition() of " + text, Checks.write(new Keys(), text).errorPosition(), want);
    }

    private void errorPosition() {
        checks.part("promise 4");
        errors("", 0);
        errors("a:1998:b", NONE);
        errors("abcdefgh,z:2999:abcdefgh", NONE);
        errors("a,b,c,d:1000:t;x:2000:y", NONE);
        errors("abcdefghi", 8);
        errors("a,abcdefghi", 10);
        errors("a,b,c,d,", 7);
        errors("a,b,c,de", 8);
        errors(",", 0);
        errors(":", 0);
        errors(";", 0);
        errors("a,,", 2);
        errors("a,:", 2);
        errors("a;", 1);
        errors("a1", 1);
        errors("A", 0);
        errors("a ", 1);
        errors("`", 0);
        errors("{", 0);
        errors("a\u00e9", 1);
        errors("a:0998:b", 2);
        errors("a:3", 2);
        errors("a:b", 2);
        errors("a:1/", 3);
        errors("a:1;", 3);
        errors("a:19981", 6);
        errors("a:1998b", 6);
        errors("a:1998;", 6);
        errors("a:199:", 5);
        errors("a:1998:", 7);
        errors("a:1998::", 7);
        errors("a:1998:;", 7);
        errors("a:1998:1", 7);
        errors("a:1998:abcdefghi", 15);
        errors("a:1998:b:", 8);
        errors("a:1998:b,", 8);
        errors("a:1998:b1", 8);
        errors("a:1998:b;", 9);
        errors("a:1998:b;;", 9);
        errors("a:1998:b;a,b,c,d,", 16);
        errors("a:1998:b;a:1998:b", NONE);
        errors("a:1998:b;".repeat(10) + "ab:1998:b", NONE);
        errors("a:1998:b;".repeat(11), 99);
        errors("a:1998:b;".repeat(11) + "a", 100);
    }

    private void errorPositionOfEveryBeginning() {
        String list = "abcdefgh,b,c,d:1998:title;x:2000:abcdefgh";
        for (int n = 0; n <= list.length(); n++) {
            boolean whole = n > 20 && n < 26 || n > 33;
            errors(list.substring(0, n), whole ? NONE : n);
        }
        for (int n = 0; n < list.length(); n++) {
            errors(list.substring(0, n) + "?" + list.substring(n + 1), n);
        }
    }

    private void load() {
        checks.part("promise 5");
        Keys x = Checks.write(new Keys(), "smith,li:1998:owls;smi:1898:ants;z:2005:x");
        due("load()", x.load(), 3);
        due("work 0", Checks.told(x, 0), "smith,li:1998:owls");
        due("work 1", Checks.told(x, 1), "smi:1898:ants");
        due("work 2", Checks.told(x, 2), "z:2005:x");
        due("keys", Checks.keys(x), "smi98b smi98a z05");
        due("load() again", x.load(), 3);
        due("keys", Checks.keys(x), "smi98b smi98a z05");
        due("clearText(), which tells that load keeps the text", x.clearText(), 41);
        checks.thrown("load() of no text", STATE, () -> x.load());
        due("load() of 11 works", Checks.loaded("a:1998:b;".repeat(10) + "ab:1998:b").about(0), 11);
        for (String text : new String[] {"a", "a:1998:b;", "a:1998:", "a:199:b", "a:1998:b?"}) {
            Checks.write(x, text);
            checks.thrown("load() of " + text, STATE, () -> x.load());
        }
    }

    private void loadForgets() {
        Keys x = Checks.loaded("a:1998:b");
        x.setStyle(3);
        x.setOrder(1);
        x.print();
        x.save(0);
        x.save(1);
        Checks.write(x, "a:1998:b?");
        checks.thrown("load() of no list", STATE, () -> x.load());
        due("restore(0) behind a load that failed", x.restore(0), 1);
        x.print();
        due("undo() behind a load that failed", x.undo(), 0);
        x.print();
        Checks.write(x, "c:1998:d;c:1998:e").load();
        due("the style", x.about(1), 0);
        due("the order", x.about(2), 0);
        due("printed keys", x.about(6), 0);
        due("keys", Checks.keys(x), "c98a c98b");
        checks.thrown("undo()", STATE, () -> x.undo());
        checks.thrown("restore(0)", STATE, () -> x.restore(0));
        checks.thrown("restore(1)", STATE, () -> x.restore(1));
    }

    private String numbers(Keys x) {
        StringBuilder numbers = new StringBuilder();
        for (int what = 0; what <= 7; what++) {
            numbers.append(what == 0 ? "" : " ").append(x.about(what));
        }
        return numbers.toString();
    }

    private void about() {
        checks.part("promise 6");
        Keys x = Checks.loaded("abcdefgh,b:1998:c;abcdex:1998:d;q:2000:d;q:2000:d;q:2000:d");
        due("numbers", numbers(x), "5 0 0 5 2 6 0 0");
        x.setStyle(2);
        due("numbers", numbers(x), "5 2 0 3 3 11 0 0");
        x.setOrder(1);
        x.print();
        due("numbers", numbers(x), "5 2 1 3 3 11 5 0");
        x.remove(2);
        x.remove(0);
        due("numbers", numbers(x), "3 2 1 2 2 8 5 2");
        x.print();
        due("numbers", numbers(x), "3 2 1 2 2 8 3 0");
        Keys z = Checks.loaded("abcdefgh,b:1998:c;abcdefgh,c:1998:c");
        z.setStyle(2);
        due("the longest key", z.about(5), 12);
        due("different stems", z.about(4), 1);
        for (int what : new int[] {-1, 8, Integer.MIN_VALUE, Integer.MAX_VALUE}) {
            checks.thrown("about(" + what + ")", ARGUMENT, () -> x.about(what));
        }
    }

    private String numbers(Keys x, int i) {
        StringBuilder numbers = new StringBuilder();
        for (int what = 0; what <= 6; what++) {
            numbers.append(what == 0 ? "" : " ").append(x.work(i, what));
        }
        return numbers.toString();
    }

    private void work() {
        checks.part("promise 7");
        Keys x = Checks.loaded("b,c,d,e:2998:abcdefgh;b:1998:abc;a:1000:c;b,c:2098:u");
        due("work 0", numbers(x, 0), "2998 4 8 4 3 3 3");
        due("work 1", numbers(x, 1), "1998 1 3 4 1 1 3");
        due("work 2", numbers(x, 2), "1000 1 1 3 0 0 1");
        due("work 3", numbers(x, 3), "2098 2 1 4 2 2 3");
        x.setOrder(1);
        due("work 3", numbers(x, 3), "2098 2 1 4 2 2 3");
        x.setStyle(1);
        due("work 0", numbers(x, 0), "2998 4 8 8 0 3 1");
        for (int i : new int[] {-1, 4, Integer.MIN_VALUE, Integer.MAX_VALUE}) {
            checks.thrown("work(" + i + ", 0)", INDEX, () -> x.work(i, 0));
            checks.thrown("work(" + i + ", 7)", INDEX, () -> x.work(i, 7));
        }
        for (int what : new int[] {-1, 7, Integer.MIN_VALUE, Integer.MAX_VALUE}) {
            checks.thrown("work(0, " + what + ")", ARGUMENT, () -> x.work(0, what));
        }
    }

    private void letter() {
        checks.part("promise 8");
        Keys x = Checks.loaded("abcdefgz,q,zz:1998:title;y:1998:w");
        due("author 0", Checks.name(x, 0, 0), "abcdefgz");
        due("author 1", Checks.name(x, 0, 1), "q");
        due("author 2", Checks.name(x, 0, 2), "zz");
        due("title", Checks.name(x, 0, 3), "title");
        due("title of 1", Checks.name(x, 1, 1), "w");
        due("letter(0, 0, 7)", x.letter(0, 0, 7), (int) 'z');
        due("letter(0, 0, 8)", x.letter(0, 0, 8), NONE);
        due("letter(0, 1, 1)", x.letter(0, 1, 1), NONE);
        due("letter(0, 3, MAX)", x.letter(0, 3, Integer.MAX_VALUE), NONE);
        checks.thrown("letter(0, 4, 0)", ARGUMENT, () -> x.letter(0, 4, 0));
        checks.thrown("letter(1, 2, 0)", ARGUMENT, () -> x.letter(1, 2, 0));
        for (int far : FAR) {
            checks.thrown("letter(0, " + far + ", 0)", ARGUMENT, () -> x.letter(0, far, 0));
            checks.thrown("letter(" + far + ", 0, 0)", INDEX, () -> x.letter(far, 0, 0));
        }
        checks.thrown("letter(0, 0, -1)", ARGUMENT, () -> x.letter(0, 0, -1));
        checks.thrown("letter(0, 3, MIN)", ARGUMENT, () -> x.letter(0, 3, Integer.MIN_VALUE));
        checks.thrown("letter(2, -1, -1)", INDEX, () -> x.letter(2, -1, -1));
    }

    private void key() {
        checks.part("promise 9");
        Keys x = Checks.loaded("smith:1905:b;smithy:1805:a;li:2000:x");
        due("keys", Checks.keys(x), "smi05a smi05b li00");
        due("key(0, 6)", x.key(0, 6), NONE);
        due("key(0, MAX)", x.key(0, Integer.MAX_VALUE), NONE);
        due("key(2, 4)", x.key(2, 4), NONE);
        due("key(0, 5)", x.key(0, 5), (int) 'a');
        for (int far : new int[] {Integer.MIN_VALUE, -1, 3, Integer.MAX_VALUE}) {
            checks.thrown("key(" + far + ", 0)", INDEX, () -> x.key(far, 0));
            checks.thrown("key(" + far + ", -1)", INDEX, () -> x.key(far, -1));
        }
        checks.thrown("key(0, -1)", ARGUMENT, () -> x.key(0, -1));
        checks.thrown("key(0, MIN)", ARGUMENT, () -> x.key(0, Integer.MIN_VALUE));
    }

    private void keyOfEveryStyle() {
        Keys x = Checks.loaded("abcdefgh,z,y,x:1007:qr;abcxyz,w:2107:qs;ab:2999:z;abcdefgh:1907:t");
        due("keys", Checks.keys(x), "abc07b abc07c ab99 abc07a");
        x.setStyle(1);
        due("keys", Checks.keys(x), "azyx1007 aw2107 a2999 a1907");
        x.setStyle(2);
        due("keys", Checks.keys(x), "abcdefgh+07 abcxyz+07 ab99 abcdefgh07");
        x.setStyle(3);
        due("keys", Checks.keys(x), "aq1007 aq2107 az2999 at1907");
        Keys y = new Keys();
        for (int n = 0; n < 16; n++) {
            Checks.added(y, "a:1998:t");
        }
        due("keys", Checks.keys(y), "a98a a98b a98c a98d a98e a98f a98g a98h a98i a98j a98k a98l a98m a98n a98o a98p");
    }

    private void at() {
        checks.part("promise 10");
        Keys x = Checks.loaded("c:1998:b;a:1998:b;b:1998:b");
        due("order", Checks.order(x), "1 2 0");
        due("at(3)", x.at(3), NONE);
        due("at(MAX)", x.at(Integer.MAX_VALUE), NONE);
        checks.thrown("at(-1)", ARGUMENT, () -> x.at(-1));
        checks.thrown("at(MIN)", ARGUMENT, () -> x.at(Integer.MIN_VALUE));
    }

    private void inOrder(String text, String want, String wantByYears) {
        Keys x = Checks.loaded(text);
        due("order of " + text, Checks.order(x), want);
        x.setOrder(1);
        due("order by years of " + text, Checks.order(x), wantByYears);
    }

    private void atInBothOrders() {
        inOrder("ab:1998:b;a:1998:b;abc:1998:b;b:1998:b", "1 0 2 3", "1 0 2 3");
        inOrder("a,b:1998:b;a:1998:b;a,b,c:1998:b;aa:1998:b", "1 0 2 3", "1 0 2 3");
        inOrder("a,c:1998:b;a,b,z,z:1998:b;a,bb:1998:b", "1 2 0", "1 2 0");
        inOrder("a:2001:a;a:1998:b;b:1990:c", "1 0 2", "2 1 0");
        inOrder("a:1998:ab;a:1998:a;a:1998:b;a:1998:aa", "1 3 0 2", "1 3 0 2");
        inOrder("a:1998:t;a:1998:t;a:1998:t", "0 1 2", "0 1 2");
        inOrder("a:2000:a;a,b:1999:z;b:1998:a", "0 1 2", "2 1 0");
        inOrder("a,b,c,e:1998:a;a,b,c,d:1999:a", "1 0", "0 1");
        inOrder("abcdefgz:1998:a;abcdefga:1998:a", "1 0", "1 0");
        inOrder("b:1998:a;a:1998:b", "1 0", "1 0");
    }

    private int meaningOf(Keys x, String text) {
        return Checks.write(x, text).meaning();
    }

    private void meaning() {
        checks.part("promise 11");
        Keys x = Checks.loaded("smith:1998:b;smi:1898:a;li,wu:2005:t");
        due("smi98a", meaningOf(x, "smi98a"), 1);
        due("smi98b", meaningOf(x, "smi98b"), 0);
        due("li05", meaningOf(x, "li05"), 2);
        for (String text : new String[] {"smi98", "smi98c", "smi98aa", "li05a", "li0", "", "lI05", "li+05", "li05 "}) {
            due(text, meaningOf(x, text), NONE);
        }
        x.setStyle(2);
        due("li+05", meaningOf(x, "li+05"), 2);
        due("li05", meaningOf(x, "li05"), NONE);
        x.setStyle(1);
        due("lw2005", meaningOf(x, "lw2005"), 2);
        due("an empty text without works", new Keys().meaning(), NONE);
    }

    private int printedMeaningOf(Keys x, String text) {
        return Checks.write(x, text).printedMeaning();
    }

    private void printedMeaning() {
        checks.part("promise 12");
        Keys x = Checks.loaded("smith:1998:b;smi:1898:a;li,wu:2005:t");
        due("smi98a", printedMeaningOf(x, "smi98a"), NONE);
        x.print();
        due("smi98a", printedMeaningOf(x, "smi98a"), 1);
        due("smi98b", printedMeaningOf(x, "smi98b"), 0);
        due("li05", printedMeaningOf(x, "li05"), 2);
        due("smi98", printedMeaningOf(x, "smi98"), NONE);
        due("no text", printedMeaningOf(x, ""), NONE);
        x.remove(1);
        due("smi98a", printedMeaningOf(x, "smi98a"), GONE);
        due("smi98b", printedMeaningOf(x, "smi98b"), 0);
        due("li05", printedMeaningOf(x, "li05"), 1);
        Checks.added(x, "zz:1998:t");
        due("zz98", printedMeaningOf(x, "zz98"), NONE);
        Checks.write(x, "other:1234:t").change(1);
        due("li05 of a work that was changed", printedMeaningOf(x, "li05"), 1);
        x.remove(0);
        due("smi98b", printedMeaningOf(x, "smi98b"), GONE);
        due("li05", printedMeaningOf(x, "li05"), 0);
        x.print();
        due("li05", printedMeaningOf(x, "li05"), NONE);
        due("oth34", printedMeaningOf(x, "oth34"), 0);
    }

    private String printedNumbers(Keys x) {
        return x.printed(0) + " " + x.printed(1) + " " + x.printed(2);
    }

    private void printed() {
        checks.part("promise 13");
        Keys x = Checks.loaded("a:1998:b;a:1998:c;d:2000:x;e:2000:x");
        due("printed before print", printedNumbers(x), "0 0 0");
        x.print();
        due("printed", printedNumbers(x), "0 0 4");
        Checks.added(x, "a:1998:a");
        due("a98a and a98b moved", printedNumbers(x), "2 0 2");
        x.remove(0);
        due("a98a is of the new work, a98b is right again", printedNumbers(x), "1 0 3");
        x.setYear(1, 2001);
        due("d00 is of none", printedNumbers(x), "1 1 2");
        x.remove(2);
        due("e00 is of none", printedNumbers(x), "1 2 1");
        Checks.added(x, "e:2000:y");
        due("e00 is another work", printedNumbers(x), "2 1 1");
        x.setStyle(1);
        due("another style", printedNumbers(x), "0 4 0");
        Keys y = Checks.loaded("abc:1998:b");
        y.print();
        y.setStyle(2);
        due("the same key by another style", printedNumbers(y), "0 0 1");
        for (int what : new int[] {-1, 3, Integer.MIN_VALUE, Integer.MAX_VALUE}) {
            checks.thrown("printed(" + what + ")", ARGUMENT, () -> x.printed(what));
        }
    }

    private void add() {
        checks.part("promise 14");
        Keys x = new Keys();
        checks.thrown("add() of no text", STATE, () -> x.add());
        for (int n = 0; n < 16; n++) {
            due("add()", Checks.added(x, "q,r,s,t:2000:t"), n);
        }
        due("work 15", Checks.told(x, 15), "q,r,s,t:2000:t");
        checks.thrown("add() to 16 works", STATE, () -> x.add());
        Checks.write(x, "a:1998:b;a:1998:b");
        checks.thrown("add() of two works to 16", STATE, () -> x.add());
        x.remove(0);
        checks.thrown("add() of two works", STATE, () -> x.add());
        Checks.write(x, "a:1998:b;");
        checks.thrown("add() of no list", STATE, () -> x.add());
        due("add()", Checks.added(x, "a:1998:b"), 15);
        due("the text's length, which add keeps", x.clearText(), 8);
        due("undo()", x.undo(), 13);
        due("works", x.about(0), 15);
    }

    private void change() {
        checks.part("promise 15");
        Keys x = Checks.loaded("a:1998:b;a:1998:c;a:1998:d;q:2000:x");
        x.print();
        Checks.write(x, "zed,y:1777:title");
        due("change(0)", x.change(0), 3);
        due("work 0", Checks.told(x, 0), "zed,y:1777:title");
        due("keys", Checks.keys(x), "zed77 a98a a98b q00");
        due("change(0) into the same", x.change(0), 0);
        due("what has been printed is still of it", printedMeaningOf(x, "a98a"), 0);
        Checks.write(x, "zedd:1777:a");
        due("change(3)", x.change(3), 2);
        due("keys", Checks.keys(x), "zed77a a98a a98b zed77b");
        due("undo()", x.undo(), 3);
        due("keys", Checks.keys(x), "zed77 a98a a98b q00");
        for (int far : new int[] {Integer.MIN_VALUE, -1, 4, Integer.MAX_VALUE}) {
            checks.thrown("change(" + far + ")", INDEX, () -> x.change(far));
        }
        Checks.write(x, "a:1998:b;a:1998:b");
        checks.thrown("change(0) into two works", STATE, () -> x.change(0));
        checks.thrown("change(4) into two works", INDEX, () -> x.change(4));
        x.clearText();
        checks.thrown("change(0) into none", STATE, () -> x.change(0));
    }

    private void setYear() {
        checks.part("promise 16");
        Keys x = Checks.loaded("a:1998:b;a:1998:c;a:1998:d");
        due("setYear(0, 1998)", x.setYear(0, 1998), 0);
        due("setYear(0, 1898)", x.setYear(0, 1898), 0);
        due("setYear(0, 2998)", x.setYear(0, 2998), 3);
        due("keys", Checks.keys(x), "a98c a98a a98b");
        due("setYear(1, 1000)", x.setYear(1, 1000), 3);
        due("keys", Checks.keys(x), "a98b a00 a98a");
        due("setYear(1, 2999)", x.setYear(1, 2999), 1);
        due("its year", x.work(1, 0), 2999);
        due("undo()", x.undo(), 4);
        due("its year", x.work(1, 0), 1000);
        for (int year : new int[] {999, 3000, 0, -1998, Integer.MIN_VALUE, Integer.MAX_VALUE}) {
            checks.thrown("setYear(0, " + year + ")", ARGUMENT, () -> x.setYear(0, year));
        }
        for (int far : new int[] {Integer.MIN_VALUE, -1, 3, Integer.MAX_VALUE}) {
            checks.thrown("setYear(" + far + ", 2000)", INDEX, () -> x.setYear(far, 2000));
            checks.thrown("setYear(" + far + ", 0)", INDEX, () -> x.setYear(far, 0));
        }
    }

    private void remove() {
        checks.part("promise 17");
        Keys x = Checks.loaded("a:1998:b;q:2000:x;a:1998:a;a:1998:c");
        due("remove(0)", x.remove(0), 1);
        due("keys", Checks.keys(x), "q00 a98a a98b");
        due("work 2", Checks.told(x, 2), "a:1998:c");
        due("remove(0)", x.remove(0), 0);
        due("remove(1)", x.remove(1), 1);
        due("keys", Checks.keys(x), "a98");
        due("remove(0)", x.remove(0), 0);
        due("works", x.about(0), 0);
        checks.thrown("remove(0)", INDEX, () -> x.remove(0));
        x.undo();
        due("keys", Checks.keys(x), "a98");
        due("work 0", Checks.told(x, 0), "a:1998:a");
        for (int far : new int[] {Integer.MIN_VALUE, -1, 1, Integer.MAX_VALUE}) {
            checks.thrown("remove(" + far + ")", INDEX, () -> x.remove(far));
        }
    }

    private void setStyle() {
        checks.part("promise 18");
        Keys x = Checks.loaded("abcd,e:1998:t");
        due("setStyle(3)", x.setStyle(3), 0);
        due("keys", Checks.keys(x), "at1998");
        due("setStyle(2)", x.setStyle(2), 3);
        due("keys", Checks.keys(x), "abcd+98");
        due("setStyle(2)", x.setStyle(2), 2);
        due("setStyle(1)", x.setStyle(1), 2);
        due("keys", Checks.keys(x), "ae1998");
        due("setStyle(0)", x.setStyle(0), 1);
        due("keys", Checks.keys(x), "abc98");
        due("undo()", x.undo(), 4);
        due("the style", x.about(1), 1);
        for (int style : new int[] {-1, 4, Integer.MIN_VALUE, Integer.MAX_VALUE}) {
            checks.thrown("setStyle(" + style + ")", ARGUMENT, () -> x.setStyle(style));
        }
    }

    private void setOrder() {
        checks.part("promise 19");
        Keys x = Checks.loaded("ab:2098:t;abc:1998:t;abcd:1998:t;abcde:1998:t;q:1998:t");
        due("setOrder(0)", x.setOrder(0), 0);
        due("setOrder(1)", x.setOrder(1), 0);
        x.setYear(1, 2098);
        due("keys", Checks.keys(x), "ab98 abc98c abc98a abc98b q98");
        due("setOrder(0)", x.setOrder(0), 3);
        due("keys", Checks.keys(x), "ab98 abc98a abc98b abc98c q98");
        due("the order", x.about(2), 0);
        due("undo()", x.undo(), 3);
        due("the order", x.about(2), 1);
        due("keys", Checks.keys(x), "ab98 abc98c abc98a abc98b q98");
        for (int order : new int[] {-1, 2, Integer.MIN_VALUE, Integer.MAX_VALUE}) {
            checks.thrown("setOrder(" + order + ")", ARGUMENT, () -> x.setOrder(order));
        }
    }

    private void print() {
        checks.part("promise 20");
        Keys x = Checks.loaded("a:1998:b;a:1998:c");
        due("print()", x.print(), 2);
        x.setStyle(1);
        due("printed keys", printedMeaningOf(x, "a98b"), 1);
        due("print()", x.print(), 2);
        due("a98b", printedMeaningOf(x, "a98b"), NONE);
        due("a1998b", printedMeaningOf(x, "a1998b"), 1);
        due("undo()", x.undo(), 2);
        due("a98b", printedMeaningOf(x, "a98b"), 1);
        x.remove(0);
        x.remove(0);
        due("print()", x.print(), 0);
        due("printed keys", x.about(6), 0);
        due("printed keys of none", x.about(7), 0);
    }

    private void undo() {
        checks.part("promise 21");
        Keys x = Checks.loaded("a:1000:b");
        for (int n = 1; n <= 20; n++) {
            x.setYear(0, 1000 + n);
        }
        for (int n = 1; n <= 14; n++) {
            due("undo()", x.undo(), 14 - n);
            due("the year", x.work(0, 0), 1020 - n);
        }
        checks.thrown("undo()", STATE, () -> x.undo());
        x.setOrder(0);
        due("undo() of an action that made nothing different", x.undo(), 0);
        x.setYear(0, 1500);
        Checks.answer(() -> x.setYear(0, 0));
        x.save(0);
        x.ifRemoved(0);
        x.runScript(1, 1000);
        x.simulate(1, 9);
        x.bestStyle();
        due("undo() behind calls that are no actions", x.undo(), 0);
        due("the year", x.work(0, 0), 1006);
        x.save(1);
        x.setYear(0, 1700);
        Checks.write(x, "kept");
        x.undo();
        due("the text, which undo keeps", x.clearText(), 4);
        x.restore(0);
        due("the year in slot 0", x.work(0, 0), 1500);
    }

    private static Keys withGoneKey() {
        Keys x = Checks.loaded("a:1998:b;a:1998:c;d:2000:x");
        x.print();
        x.remove(2);
        return Checks.write(x, "a:1998:a");
    }

    private void undoOfEveryAction() {
        List<ToLongFunction<Keys>> actions = List.of(x -> x.add(), x -> x.change(1), x -> x.setYear(0, 2222),
            x -> x.remove(0), x -> x.setStyle(3), x -> x.setOrder(1), x -> x.print());
        String before = Checks.picture(withGoneKey());
        for (int a = 0; a < actions.size(); a++) {
            Keys x = withGoneKey();
            actions.get(a).applyAsLong(x);
            due("action " + a + " differs", Checks.picture(x).equals(before), false);
            due("undo() of action " + a, x.undo(), 2);
            due("behind undo() of action " + a, Checks.picture(x), before);
        }
        Keys x = withGoneKey();
        for (int a = 0; a < 4; a++) {
            actions.get(a).applyAsLong(x);
        }
        for (int a = 4; a > 0; a--) {
            due("undo()", x.undo(), a + 1);
        }
        due("behind all", Checks.picture(x), before);
    }

    private void ifRemoved() {
        checks.part("promise 22");
        Keys x = Checks.loaded("a:1998:b;a:1998:a;a:1998:c;q:2000:x;q:2000:y");
        String before = Checks.picture(x);
        int[] wants = {1, 2, 0, 1, 1};
        for (int i = 0; i < wants.length; i++) {
            due("ifRemoved(" + i + ")", x.ifRemoved(i), wants[i]);
        }
        due("the object", Checks.picture(x), before);
        checks.thrown("undo()", STATE, () -> x.undo());
        for (int far : new int[] {Integer.MIN_VALUE, -1, 5, Integer.MAX_VALUE}) {
            checks.thrown("ifRemoved(" + far + ")", INDEX, () -> x.ifRemoved(far));
        }
    }

    private void freeYear() {
        checks.part("promise 23");
        Keys x = Checks.loaded("smith:1998:a;smi:1998:b;smi:1997:c;q:1998:t;ab:1000:x;ab:1000:y");
        due("freeYear(0)", x.freeYear(0), 1999);
        due("freeYear(1)", x.freeYear(1), 1999);
        due("freeYear(2)", x.freeYear(2), 1997);
        due("freeYear(3)", x.freeYear(3), 1998);
        due("freeYear(4)", x.freeYear(4), 1001);
        x.setYear(2, 1996);
        due("freeYear(0)", x.freeYear(0), 1997);
        x.setStyle(2);
        due("freeYear(0)", x.freeYear(0), 1998);
        Keys y = Checks.loaded("a:2999:a;a:2999:b;a:1998:c;a:2097:d;a:1000:e;a:1001:e;a:1000:f");
        due("freeYear(0)", y.freeYear(0), 2996);
        due("freeYear(4)", y.freeYear(4), 1002);
        y.setStyle(1);
        due("freeYear(0)", y.freeYear(0), 2998);
        due("freeYear(6)", y.freeYear(6), 1002);
        due("freeYear(5)", y.freeYear(5), 1001);
        due("the year", y.work(0, 0), 2999);
        for (int far : new int[] {Integer.MIN_VALUE, -1, 7, Integer.MAX_VALUE}) {
            checks.thrown("freeYear(" + far + ")", INDEX, () -> y.freeYear(far));
        }
    }

    private void lettersWith() {
        checks.part("promise 24");
        Keys x = Checks.loaded("smith,a:1998:a;smi:1998:b;smith,b:1898:c;sa:1998:b;sb:1998:d");
        String before = Checks.picture(x);
        due("lettersWith(0)", x.lettersWith(0), 3);
        due("lettersWith(1)", x.lettersWith(1), 3);
        due("lettersWith(2)", x.lettersWith(2), 2);
        due("lettersWith(3)", x.lettersWith(3), 2);
        due("the object", Checks.picture(x), before);
        due("lettersWith(2) without works", new Keys().lettersWith(2), 0);
        for (int style : new int[] {-1, 4, Integer.MIN_VALUE, Integer.MAX_VALUE}) {
            checks.thrown("lettersWith(" + style + ")", ARGUMENT, () -> x.lettersWith(style));
        }
    }

    private void best(String text, int want) {
        Keys x = Checks.loaded(text);
        String before = Checks.picture(x);
        due("bestStyle() of " + text, x.bestStyle(), want);
        due("the object", Checks.picture(x), before);
        x.setStyle(3);
        due("bestStyle() of " + text, x.bestStyle(), want);
    }

    private void bestStyle() {
        checks.part("promise 25");
        due("bestStyle() without works", new Keys().bestStyle(), 0);
        best("smith:1998:a", 0);
        best("smith:1998:a;smi:1898:b", 1);
        best("smith:1998:a;smi:1998:b", 3);
        best("smith,li:1998:a;smi:1898:a", 1);
        best("sm:1998:a;sn:1998:a", 0);
        best("smit,b,c,d:1998:a;smi:1998:a", 2);
        best("smithson,b,c:1998:a;smi:1998:a", 1);
        best("a:1998:a;a:1998:a", 0);
        best("abcd:1998:a;abce:1998:a", 2);
        best("abcdef,a,b:1998:a;abcdee:1898:a", 3);
        best("abcdef,a:1998:a;abcdee:1898:a", 1);
    }

    private void weightiest() {
        checks.part("promise 26");
        due("weightiest() without works", new Keys().weightiest(), NONE);
        due("weightiest()", Checks.loaded("a:1998:a;b:1998:a").weightiest(), 0);
        Keys x = Checks.loaded("q:2000:x;a:1998:b;a:1998:a;a:1998:c;b:2000:x;b:2000:y");
        String before = Checks.picture(x);
        due("weightiest()", x.weightiest(), 2);
        due("the object", Checks.picture(x), before);
        due("weightiest()", Checks.loaded("q:2000:x;b:2000:x;b:2000:y;c:1998:a;c:1998:a").weightiest(), 1);
    }

    private void script(Keys x, int n, long script, int want) {
        due("runScript(" + n + ", " + script + ")", x.runScript(n, script), want);
    }

    private void runScript() {
        checks.part("promise 27");
        Keys x = Checks.loaded("a:1998:b;a:1998:a;q:1000:x;q:2999:y");
        long[] succeeding = {1000, 1003, 2000, 2003, 3000, 3001, 4009, 4000, 4025, 4026, 4034, 5000, 5001, 6000, 6002,
            7000, 8000, 8099, 9002, 9011, 9020, 9030};
        for (long one : succeeding) {
            script(x, 1, one, NONE);
        }
        long[] failing = {0, 1, 999, 1004, 1016, 1100, 2004, 2010, 2100, 3002, 3010, 3100, 4045, 4165, 4024, 4036, 5002,
            5004, 5100, 6003, 6099, 6100, 7001, 7010, 7100, 8100, 8900, 9000, 9001, 9003, 9021, 9040, 9990, 9999};
        for (long one : failing) {
            script(x, 1, one, 0);
        }
        script(x, 2, 10009010L, NONE);
        script(x, 2, 10009000L, NONE);
        script(x, 2, 10005000L, 1);
        script(x, 2, 40049002L, 1);
        script(x, 2, 40049000L, NONE);
        script(x, 2, 30019002L, NONE);
        script(x, 2, 20036002L, 1);
        script(x, 4, 2003600070008000L, NONE);
        script(x, 4, 7000100080006002L, 3);
        script(x, 4, 7000100180006001L, 3);
        script(x, 4, 7000100080006000L, NONE);
        script(x, 4, 7000400680008001L, NONE);
        script(x, 3, 400680007000L, NONE);
        script(x, 4, 1000100010001000L, NONE);
        script(x, 3, 7000L, 0);
        script(x, 4, 9999999999999999L, 0);
        script(x, 4, 7000700070009999L, 3);
        Keys y = Checks.loaded("abc:2098:t;abcd:1998:t;a:2000:a;a:2000:b;a:2000:c");
        script(y, 2, 30009001L, NONE);
        script(y, 2, 30019002L, NONE);
        script(y, 3, 300130009001L, NONE);
        script(y, 3, 700010028001L, 2);
        script(y, 3, 700010028002L, NONE);
        script(y, 2, 10028000L, NONE);
        for (int n = 5; n < 16; n++) {
            Checks.added(y, "z:2100:t");
        }
        script(y, 1, 4155, NONE);
        script(y, 1, 4165, 0);
        script(y, 2, 41569005L, 1);
        script(y, 2, 41569150L, NONE);
        script(y, 2, 41009101L, 1);
        script(new Keys(), 1, 1000, 0);
        script(new Keys(), 1, 7000, NONE);
    }

    private void runScriptRefuses() {
        Keys x = Checks.loaded("a:1998:b;a:1998:a");
        for (int n : new int[] {0, 5, -1, Integer.MIN_VALUE, Integer.MAX_VALUE}) {
            checks.thrown("runScript(" + n + ", 7000)", ARGUMENT, () -> x.runScript(n, 7000));
        }
        long limit = 1;
        for (int n = 1; n <= 4; n++) {
            limit *= 10000;
            long[] wrong = {limit, -1, -7000, Long.MIN_VALUE, Long.MAX_VALUE};
            for (long one : wrong) {
                int commands = n;
                checks.thrown("runScript(" + n + ", " + one + ")", ARGUMENT, () -> x.runScript(commands, one));
            }
            due("runScript(" + n + ", " + (limit - 1) + ")", x.runScript(n, limit - 1), 0);
        }
        checks.thrown("undo()", STATE, () -> x.undo());
    }

    private void simulate() {
        checks.part("promise 28");
        String text = "smith,li:1998:owls;smi:1998:ants;a:1990:a;b:1991:x";
        for (int style = 0; style <= 3; style++) {
            Keys x = Checks.loaded(text);
            x.setStyle(style);
            String before = Checks.picture(x);
            for (long seed : new long[] {0, 1, -1, 5, 77, Long.MIN_VALUE, Long.MAX_VALUE, 123456789012345L}) {
                for (int m : new int[] {1, 2, 3, 7, 30}) {
                    due("simulate(" + seed + ", " + m + ")", x.simulate(seed, m), played(text, style, seed, m));
                }
            }
            due("the object", Checks.picture(x), before);
        }
        due("simulate(2, 9) from nothing", new Keys().simulate(2, 9), played(new Keys(), 2, 9));
        due("simulate(-1, 99)", Checks.loaded("a:2000:b;a:1998:b").simulate(-1, 99), 1511);
        Keys x = Checks.loaded("a:2000:b;a:1998:b");
        for (int m : new int[] {0, 100, -1, Integer.MIN_VALUE, Integer.MAX_VALUE}) {
            checks.thrown("simulate(1, " + m + ")", ARGUMENT, () -> x.simulate(1, m));
        }
        x.simulate(1, 9);
        checks.thrown("undo()", STATE, () -> x.undo());
    }

    private static int played(String text, int style, long seed, int m) {
        Keys y = Checks.loaded(text);
        y.setStyle(style);
        return played(y, seed, m);
    }

    /** What simulate is to answer, by the actions that its rounds name. */
    private static int played(Keys y, long seed, int m) {
        long x = seed;
        for (int round = 0; round < m; round++) {
            x = x * 6364136223846793005L + 1442695040888963407L;
            int r = (int) (x >>> 33);
            int works = y.about(0);
            if (r % 4 == 0 && works > 0) {
                y.remove(r / 4 % works);
            } else if (r % 4 == 1 && works > 0) {
                y.setYear(r / 4 % works, 1990 + r / 64 % 4);
            } else if (r % 4 > 1 && works < 16) {
                char author = "abc".charAt(r / 4 % 3);
                Checks.added(y, author + ":" + (1990 + r / 16 % 3) + ":" + "abc".charAt(r / 64 % 3));
            }
        }
        return 100 * y.about(0) + y.about(3);
    }

    private void save() {
        checks.part("promise 29");
        Keys x = new Keys();
        due("save(1) of nothing", x.save(1), 0);
        Checks.write(x, "a:1998:b;a:1998:a").load();
        due("save(0)", x.save(0), 2);
        x.print();
        x.setStyle(3);
        x.setOrder(1);
        x.remove(1);
        String later = Checks.picture(x);
        due("save(1)", x.save(1), 1);
        due("undo(), which tells that save is no action", x.undo(), 3);
        x.restore(1);
        due("behind restore(1)", Checks.picture(x), later);
        x.restore(0);
        due("numbers behind restore(0)", numbers(x), "2 0 0 2 1 4 0 0");
        x.remove(0);
        due("save(0), which replaces", x.save(0), 1);
        x.remove(0);
        due("restore(0)", x.restore(0), 1);
        for (int slot : new int[] {-1, 2, Integer.MIN_VALUE, Integer.MAX_VALUE}) {
            checks.thrown("save(" + slot + ")", INDEX, () -> x.save(slot));
        }
    }

    private void restore() {
        checks.part("promise 30");
        Keys x = Checks.loaded("a:1998:b;a:1998:a");
        checks.thrown("restore(0)", STATE, () -> x.restore(0));
        x.save(0);
        checks.thrown("restore(1)", STATE, () -> x.restore(1));
        x.print();
        x.setYear(0, 1999);
        checks.thrown("restore(1)", STATE, () -> x.restore(1));
        due("undo() behind a restore that failed", x.undo(), 1);
        Checks.write(x, "kept");
        due("restore(0)", x.restore(0), 2);
        due("numbers", numbers(x), "2 0 0 2 1 4 0 0");
        due("the text, which restore keeps", x.clearText(), 4);
        checks.thrown("undo()", STATE, () -> x.undo());
        x.remove(0);
        x.remove(0);
        due("restore(0) again", x.restore(0), 2);
        due("keys", Checks.keys(x), "a98b a98a");
        for (int slot : new int[] {-1, 2, Integer.MIN_VALUE, Integer.MAX_VALUE}) {
            checks.thrown("restore(" + slot + ")", INDEX, () -> x.restore(slot));
        }
        Checks.write(x, "z:1998:b").load();
        checks.thrown("restore(0) behind load", STATE, () -> x.restore(0));
    }
}
