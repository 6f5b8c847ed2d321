import java.util.function.ToLongFunction;

/** The edges that the promises 14 to 21 name: actions. */
public final class EdgeActionTests extends Edges {
    public static void main(String[] args) {
        EdgeActionTests tests = new EdgeActionTests();
        tests.add();
        tests.addRefuses();
        tests.change();
        tests.changeCounts();
        tests.changeRefuses();
        tests.setYear();
        tests.setYearCounts();
        tests.setYearRefuses();
        tests.remove();
        tests.removeCounts();
        tests.removeRefuses();
        tests.setStyle();
        tests.setOrder();
        tests.print();
        tests.undo();
        tests.undoOfEachAction();
        tests.end(14, 21);
    }

    private void remembers(String what, long want, ToLongFunction<Keys> action) {
        Keys x = busyWith("q:1998:t");
        String before = Checks.picture(x);
        due(what, action.applyAsLong(x), want);
        due("undo() of " + what, x.undo(), 5);
        due("all that is seen behind undo() of " + what, Checks.picture(x), before);
    }

    private void add() {
        edge(14, "its number is returned: 0 of the first work, 15 of the sixteenth");
        Keys x = Checks.write(new Keys(), "a,b:1998:t");
        for (int n = 0; n < 16; n++) {
            due("add()", x.add(), n);
        }
        due("work 0", Checks.told(x, 0), "a,b:1998:t");
        due("work 15", Checks.told(x, 15), "a,b:1998:t");
        edge(14, "the works that were there keep their numbers, also if the new one is before them in order");
        Keys y = Checks.loaded("b:1998:t;c:1998:t");
        due("add()", Checks.added(y, "a:1998:t"), 2);
        due("works", Checks.told(y, 0) + " " + Checks.told(y, 1) + " " + Checks.told(y, 2), "b:1998:t c:1998:t a:1998:t");
        due("order", Checks.order(y), "2 0 1");
        edge(14, "the shortest and the longest work that a text tells");
        taken("a:1000:t");
        Keys z = nothing();
        String longest = "abcdefgh,bcdefghi,cdefghij,defghijk:2999:efghijkl";
        due("add()", Checks.added(z, longest), 0);
        due("work 0", Checks.told(z, 0), longest);
        edge(14, "the text is kept, and can be added again");
        due("add()", z.add(), 1);
        due("clearText()", z.clearText(), 49);
        edge(14, "it is an action, and undo takes it back");
        remembers("add()", 3, q -> q.add());
    }

    private void addRefuses() {
        edge(14, "the text is not a list: it is empty, too short by one character, or too long by one");
        for (String text : new String[] {"", "a:1998:", "a:1998:t;", "a:1998:t ", "a:1998:abcdefghi"}) {
            refused("add() of " + text, () -> busyWith(text), STATE, x -> x.add());
            refused("add() of " + text + " to nothing", () -> Checks.write(new Keys(), text), STATE, x -> x.add());
        }
        edge(14, "the text is a list of two works, or of eleven, not of just one");
        refused("add() of two", () -> busyWith("a:1998:t;b:1998:t"), STATE, x -> x.add());
        refused("add() of eleven", () -> Checks.write(new Keys(), "a:1998:t;".repeat(10) + "a:1998:t"), STATE, x -> x.add());
        edge(14, "there are 16 works: with 15 one is taken, with 16 one is refused");
        due("add()", alike(15).add(), 15);
        refused("add() to 16 works", () -> alike(16), STATE, x -> x.add());
        edge(14, "there are 16 works: a refused one does not push out what is remembered");
        Keys x = Checks.write(new Keys(), "a:1998:t");
        for (int n = 0; n < 16; n++) {
            x.add();
        }
        for (int n = 0; n < 3; n++) {
            due("add()", Checks.answer(() -> x.add()), "throws IllegalStateException");
        }
        for (int kept = 13; kept >= 0; kept--) {
            due("undo()", x.undo(), kept);
        }
        due("works", x.about(0), 2);
    }

    private void change() {
        edge(15, "its number stays: of the first, a middle, and the last work");
        for (int i = 0; i < 3; i++) {
            Keys x = busyWith("q,r,s,t:1777:uv");
            x.change(i);
            due("works", x.about(0), 3);
            due("work " + i, Checks.told(x, i), "q,r,s,t:1777:uv");
            due("another one", Checks.told(x, (i + 1) % 3).equals("q,r,s,t:1777:uv"), false);
        }
        edge(15, "the last of sixteen works");
        Keys y = Checks.write(alike(16), "b:1998:t");
        due("change(15)", y.change(15), 1);
        due("work 15", Checks.told(y, 15), "b:1998:t");
        edge(15, "a work with four long names becomes one with one short name, and nothing of the old one is left");
        Keys z = Checks.loaded("abcdefgh,bcdefghi,cdefghij,defghijk:2999:efghijkl");
        Checks.write(z, "a:1000:t").change(0);
        due("work 0", Checks.told(z, 0), "a:1000:t");
        due("authors", z.work(0, 1), 1);
        z.setStyle(1);
        due("keys", Checks.keys(z), "a1000");
        edge(15, "the work that was changed is ordered as one that always was so");
        Keys q = Checks.loaded("c,d,e,f:1998:t;b:1998:t");
        Checks.write(q, "b:1998:s").change(0);
        due("order", Checks.order(q), "0 1");
        due("keys", Checks.keys(q), "b98a b98b");
        edge(15, "it is an action, and undo takes it back");
        remembers("change(1)", 1, r -> r.change(1));
    }

    private void changeCounts() {
        edge(15, "how many works have another key, itself included: none, if it is changed into the same");
        Keys x = Checks.loaded("a:1998:t");
        due("change(0)", x.change(0), 0);
        edge(15, "none, if it is changed into a work with the same key");
        Checks.write(x, "a,b:1898:u");
        due("change(0)", x.change(0), 0);
        due("work 0", Checks.told(x, 0), "a,b:1898:u");
        edge(15, "itself alone");
        Checks.write(x, "b:1998:t");
        due("change(0)", x.change(0), 1);
        edge(15, "both of two, that meet");
        Keys y = Checks.loaded("a:1998:t;b:1998:t");
        Checks.write(y, "a:1998:u");
        due("change(1)", y.change(1), 2);
        due("keys", Checks.keys(y), "a98a a98b");
        edge(15, "both of two, that only change their places in order");
        Checks.write(y, "a:1998:z");
        due("change(0)", y.change(0), 2);
        due("keys", Checks.keys(y), "a98b a98a");
        edge(15, "all sixteen, when the first in order gets another stem");
        Keys z = Checks.write(alike(16), "b:1998:t");
        due("change(0)", z.change(0), 16);
        due("keys", Checks.keys(z), "b98 a98a a98b a98c a98d a98e a98f a98g a98h a98i a98j a98k a98l a98m a98n a98o");
        edge(15, "all sixteen, when the first in order becomes the last");
        Keys q = Checks.write(alike(16), "a:1998:u");
        due("change(0)", q.change(0), 16);
        due("the letter", q.work(0, 4), 16);
    }

    private void changeRefuses() {
        edge(15, "there is no such work: -1, as many as there are, and what is farther");
        for (int i : outside(0, 2)) {
            refused("change(" + i + ")", Edges::busy, INDEX, x -> x.change(i));
        }
        refused("change(16)", () -> alike(16), INDEX, x -> x.change(16));
        edge(15, "the text is not a list of just one work: none, part of one, two");
        for (String text : new String[] {"", "a:1998:", "a:1998:t;", "a:1998:t;b:1998:t"}) {
            refused("change(0) into " + text, () -> busyWith(text), STATE, x -> x.change(0));
            refused("change(2) into " + text, () -> busyWith(text), STATE, x -> x.change(2));
        }
        edge(15, "with 16 works a work can still be changed");
        due("change(15)", Checks.answer(() -> alike(16).change(15)), "0");
    }

    private void setYear() {
        edge(16, "year is 1000 to 2999: both are taken");
        Keys x = Checks.loaded("a:1998:t");
        due("setYear(0, 1000)", x.setYear(0, 1000), 1);
        due("the year", x.work(0, 0), 1000);
        due("the key", Checks.keys(x), "a00");
        due("setYear(0, 2999)", x.setYear(0, 2999), 1);
        due("the year", x.work(0, 0), 2999);
        due("the key", Checks.keys(x), "a99");
        edge(16, "the first and the last work, of three and of sixteen");
        for (int i : new int[] {0, 2}) {
            Keys y = busy();
            y.setYear(i, 2500);
            due("the year", y.work(i, 0), 2500);
            due("that of another one", y.work(1, 0), 1898);
        }
        Keys z = alike(16);
        due("setYear(15, 1000)", z.setYear(15, 1000), 1);
        due("the year", z.work(15, 0), 1000);
        edge(16, "names, title and number stay");
        Keys q = Checks.loaded("ab,cd,ef,gh:1998:ij;b:1998:t");
        q.setYear(0, 1000);
        due("work 0", Checks.told(q, 0), "ab,cd,ef,gh:1000:ij");
        edge(16, "it is an action, and undo takes it back");
        remembers("setYear(1, 2999)", 1, r -> r.setYear(1, 2999));
    }

    private void setYearCounts() {
        edge(16, "how many works have another key: none, if the year stays, or if its last two digits do");
        Keys x = Checks.loaded("a:1998:t");
        due("setYear(0, 1998)", x.setYear(0, 1998), 0);
        due("setYear(0, 2998)", x.setYear(0, 2998), 0);
        due("setYear(0, 1098)", x.setYear(0, 1098), 0);
        edge(16, "how many works have another key: itself alone, if all four digits count");
        x.setStyle(1);
        due("setYear(0, 1198)", x.setYear(0, 1198), 1);
        edge(16, "how many works have another key: both of two that meet, both of two that part");
        Keys y = Checks.loaded("a:1998:t;a:1997:t");
        due("setYear(1, 1998)", y.setYear(1, 1998), 2);
        due("setYear(0, 2097)", y.setYear(0, 2097), 2);
        edge(16, "how many works have another key: all sixteen, when the first in order goes");
        Keys z = alike(16);
        due("setYear(0, 1999)", z.setYear(0, 1999), 16);
        edge(16, "how many works have another key: itself alone, when the last of sixteen goes");
        Keys q = alike(16);
        due("setYear(15, 1999)", q.setYear(15, 1999), 1);
        edge(16, "how many works have another key: those behind it, when it gets another place and keeps its stem");
        Keys r = alike(16);
        due("setYear(8, 2998)", r.setYear(8, 2998), 8);
        due("the letter", r.work(8, 4), 16);
        due("the letter of the next one", r.work(9, 4), 9);
    }

    private void setYearRefuses() {
        edge(16, "year is 1000 to 2999: 999 and 3000 are refused, and what is farther");
        for (int year : outside(1000, 2999)) {
            refused("setYear(0, " + year + ")", Edges::busy, ARGUMENT, x -> x.setYear(0, year));
            refused("setYear(2, " + year + ")", Edges::busy, ARGUMENT, x -> x.setYear(2, year));
        }
        refused("setYear(0, 0)", Edges::busy, ARGUMENT, x -> x.setYear(0, 0));
        refused("setYear(0, -1998)", Edges::busy, ARGUMENT, x -> x.setYear(0, -1998));
        edge(16, "there is no such work: -1, as many as there are, and what is farther");
        for (int i : outside(0, 2)) {
            refused("setYear(" + i + ", 2000)", Edges::busy, INDEX, x -> x.setYear(i, 2000));
        }
        refused("setYear(16, 2000)", () -> alike(16), INDEX, x -> x.setYear(16, 2000));
    }

    private String toldAll(Keys x) {
        StringBuilder told = new StringBuilder();
        for (int i = 0; i < x.about(0); i++) {
            told.append(i == 0 ? "" : " ").append(Checks.told(x, i));
        }
        return told.toString();
    }

    private void remove() {
        String four = "a,b,c,d:1001:s;ef:1002:tu;gh,i:1003:v;j:1004:w";
        edge(17, "the works behind it get numbers that are smaller by 1: of the first work");
        Keys x = Checks.loaded(four);
        x.remove(0);
        due("works", toldAll(x), "ef:1002:tu gh,i:1003:v j:1004:w");
        edge(17, "the works behind it get numbers that are smaller by 1, those before it keep theirs: of a middle one");
        Keys y = Checks.loaded(four);
        y.remove(1);
        due("works", toldAll(y), "a,b,c,d:1001:s gh,i:1003:v j:1004:w");
        edge(17, "of the last work no number becomes another");
        Keys z = Checks.loaded(four);
        z.remove(3);
        due("works", toldAll(z), "a,b,c,d:1001:s ef:1002:tu gh,i:1003:v");
        edge(17, "the only work: none is left");
        Keys q = Checks.loaded("a:1998:t");
        due("remove(0)", q.remove(0), 0);
        due("works", q.about(0), 0);
        due("remove(0) again", Checks.answer(() -> q.remove(0)), "throws IndexOutOfBoundsException");
        edge(17, "the last of sixteen works");
        Keys r = alike(16);
        due("remove(15)", r.remove(15), 0);
        due("works", r.about(0), 15);
        due("remove(15) again", Checks.answer(() -> r.remove(15)), "throws IndexOutOfBoundsException");
        edge(17, "all sixteen works, one after the other");
        for (int n = 14; n >= 0; n--) {
            r.remove(0);
            due("works", r.about(0), n);
        }
        edge(17, "it is an action, and undo takes it back");
        remembers("remove(0)", 0, w -> w.remove(0));
        remembers("remove(2)", 0, w -> w.remove(2));
    }

    private void removeCounts() {
        edge(17, "how many other works have another key: none without the same stem");
        due("remove(0)", Checks.loaded("a:1998:t;b:1998:t").remove(0), 0);
        due("remove(1)", Checks.loaded("a:1998:t;b:1998:t").remove(1), 0);
        edge(17, "how many other works have another key: one of two, its letter vanishes");
        due("remove(0)", Checks.loaded("a:1998:t;a:1998:u").remove(0), 1);
        due("remove(1)", Checks.loaded("a:1998:t;a:1998:u").remove(1), 1);
        edge(17, "how many other works have another key: of three, those behind it in order");
        due("remove(0)", Checks.loaded("a:1998:t;a:1998:u;a:1998:v").remove(0), 2);
        due("remove(1)", Checks.loaded("a:1998:t;a:1998:u;a:1998:v").remove(1), 1);
        due("remove(2)", Checks.loaded("a:1998:t;a:1998:u;a:1998:v").remove(2), 0);
        edge(17, "how many other works have another key: it is the order that counts, not the number");
        due("remove(0)", Checks.loaded("a:1998:v;a:1998:u;a:1998:t").remove(0), 0);
        due("remove(2)", Checks.loaded("a:1998:v;a:1998:u;a:1998:t").remove(2), 2);
        edge(17, "how many other works have another key: fifteen, the most");
        Keys x = alike(16);
        due("remove(0)", x.remove(0), 15);
        due("keys", Checks.keys(x), "a98a a98b a98c a98d a98e a98f a98g a98h a98i a98j a98k a98l a98m a98n a98o");
    }

    private void removeRefuses() {
        edge(17, "there is no such work: -1, as many as there are, and what is farther");
        for (int i : outside(0, 2)) {
            refused("remove(" + i + ")", Edges::busy, INDEX, x -> x.remove(i));
        }
        refused("remove(16)", () -> alike(16), INDEX, x -> x.remove(16));
        refused("remove(0)", Edges::nothing, INDEX, x -> x.remove(0));
    }

    private void setStyle() {
        edge(18, "style is 0 to 3: all are taken, and the previous one is returned");
        Keys x = Checks.loaded("abcd,e:1998:t");
        due("setStyle(0)", x.setStyle(0), 0);
        due("keys", Checks.keys(x), "abc98");
        due("setStyle(3)", x.setStyle(3), 0);
        due("keys", Checks.keys(x), "at1998");
        due("setStyle(2)", x.setStyle(2), 3);
        due("keys", Checks.keys(x), "abcd+98");
        due("setStyle(1)", x.setStyle(1), 2);
        due("keys", Checks.keys(x), "ae1998");
        due("setStyle(1)", x.setStyle(1), 1);
        due("setStyle(0)", x.setStyle(0), 1);
        due("keys", Checks.keys(x), "abc98");
        edge(18, "style is 0 to 3: -1 and 4 are refused, and what is farther");
        for (int style : outside(0, 3)) {
            refused("setStyle(" + style + ")", Edges::busy, ARGUMENT, y -> y.setStyle(style));
            refused("setStyle(" + style + ") of nothing", Edges::nothing, ARGUMENT, y -> y.setStyle(style));
        }
        edge(18, "without works the style is changed, too");
        Keys z = nothing();
        due("setStyle(3)", z.setStyle(3), 0);
        due("setStyle(1)", z.setStyle(1), 3);
        edge(18, "letters come and go with the style");
        Keys q = Checks.loaded("abcd:1998:t;abce:1998:u");
        due("keys", Checks.keys(q), "abc98a abc98b");
        q.setStyle(2);
        due("keys", Checks.keys(q), "abcd98 abce98");
        edge(18, "it is an action, and undo takes it back");
        remembers("setStyle(3)", 0, r -> r.setStyle(3));
    }

    private void setOrder() {
        edge(19, "order is 0 or 1: both are taken");
        Keys x = Checks.loaded("ab:1998:t;abc:2098:t;abcd:1998:t;abc:1998:t");
        due("keys", Checks.keys(x), "ab98 abc98b abc98c abc98a");
        due("setOrder(1)", x.setOrder(1), 2);
        due("keys", Checks.keys(x), "ab98 abc98c abc98b abc98a");
        due("the order", x.about(2), 1);
        due("setOrder(0)", x.setOrder(0), 2);
        due("keys", Checks.keys(x), "ab98 abc98b abc98c abc98a");
        due("the order", x.about(2), 0);
        edge(19, "order is 0 or 1: -1 and 2 are refused, and what is farther");
        for (int order : outside(0, 1)) {
            refused("setOrder(" + order + ")", Edges::busy, ARGUMENT, y -> y.setOrder(order));
            refused("setOrder(" + order + ") of nothing", Edges::nothing, ARGUMENT, y -> y.setOrder(order));
        }
        edge(19, "how many works have another key: none, if the order stays");
        due("setOrder(0)", x.setOrder(0), 0);
        x.setOrder(1);
        due("setOrder(1)", x.setOrder(1), 0);
        edge(19, "how many works have another key: none without works, and none of one or of works with other stems");
        due("setOrder(1)", nothing().setOrder(1), 0);
        due("setOrder(1)", alike(1).setOrder(1), 0);
        Keys y = Checks.loaded("a:1999:t;b:1998:t");
        due("setOrder(1)", y.setOrder(1), 0);
        due("order", Checks.order(y), "1 0");
        edge(19, "how many works have another key: none of sixteen that are alike");
        due("setOrder(1)", alike(16).setOrder(1), 0);
        edge(19, "how many works have another key: all sixteen");
        Keys z = alike(16);
        for (int i = 0; i < 8; i++) {
            Checks.write(z, "a,b:" + (10 + i) + "98:t").change(i);
            Checks.write(z, "a:" + (18 + i) + "98:t").change(8 + i);
        }
        due("setOrder(1)", z.setOrder(1), 16);
        due("keys", Checks.keys(z),
            "a98a a98b a98c a98d a98e a98f a98g a98h a98i a98j a98k a98l a98m a98n a98o a98p");
        edge(19, "it is an action, and undo takes it back");
        remembers("setOrder(0)", 0, r -> r.setOrder(0));
    }

    private void print() {
        edge(20, "how many keys are printed: 0 without works, 1 of one, 16 of sixteen");
        due("print()", nothing().print(), 0);
        due("print()", alike(1).print(), 1);
        due("print()", alike(16).print(), 16);
        edge(20, "keys of works that are gone are not printed again");
        Keys x = alike(3);
        x.print();
        x.remove(0);
        due("print()", x.print(), 2);
        due("printed keys", x.about(6), 2);
        due("of none", x.about(7), 0);
        edge(20, "printing the same once more changes nothing that is seen, but is an action");
        Keys y = alike(2);
        y.print();
        String before = Checks.picture(y);
        due("print()", y.print(), 2);
        due("all that is seen", Checks.picture(y), before);
        due("undo()", y.undo(), 1);
        due("undo()", y.undo(), 0);
        due("printed keys", y.about(6), 0);
        edge(20, "the keys are printed as they are then, with their letters");
        Keys z = Checks.loaded("a:1998:t;a:1998:u;b:1998:t");
        z.print();
        due("a98a", printedMeaning(z, "a98a"), 0);
        due("a98b", printedMeaning(z, "a98b"), 1);
        due("a98", printedMeaning(z, "a98"), NONE);
        due("b98", printedMeaning(z, "b98"), 2);
        edge(20, "it is an action, and undo takes it back");
        remembers("print()", 3, r -> r.print());
    }

    private void undo() {
        edge(21, "none is remembered: in a new object, behind load, behind restore");
        refused("undo()", Edges::nothing, STATE, x -> x.undo());
        refused("undo() behind load", () -> Checks.loaded("a:1998:t"), STATE, x -> x.undo());
        refused("undo() behind restore", () -> alike(3), STATE, x -> x.undo());
        edge(21, "none is remembered: when all have been taken back");
        Keys x = acted(2);
        due("undo()", x.undo(), 1);
        due("undo()", x.undo(), 0);
        due("undo()", Checks.answer(() -> x.undo()), "throws IllegalStateException");
        due("the year", x.work(0, 0), 1000);
        x.setYear(0, 2000);
        due("undo()", x.undo(), 0);
        edge(21, "how many states are still remembered: 13 of 14, and of 15");
        due("undo()", acted(13).undo(), 12);
        due("undo()", acted(14).undo(), 13);
        due("undo()", acted(15).undo(), 13);
        edge(21, "the fourteenth undo still is taken, the fifteenth is refused");
        Keys y = acted(15);
        for (int kept = 13; kept >= 0; kept--) {
            due("undo()", y.undo(), kept);
        }
        due("the year", y.work(0, 0), 1001);
        due("undo()", Checks.answer(() -> y.undo()), "throws IllegalStateException");
        due("the year", y.work(0, 0), 1001);
        edge(21, "what was taken back is forgotten when another action comes");
        Keys z = acted(3);
        z.undo();
        z.undo();
        z.setYear(0, 2000);
        due("undo()", z.undo(), 1);
        due("the year", z.work(0, 0), 1001);
        due("undo()", z.undo(), 0);
        due("the year", z.work(0, 0), 1000);
        edge(21, "the first work's coming is taken back, too");
        Keys q = nothing();
        Checks.added(q, "a:1998:t");
        due("undo()", q.undo(), 0);
        due("works", q.about(0), 0);
    }

    private void undoOfEachAction() {
        edge(21, "a removed work comes back with its number, its names, its key and its printed key");
        Keys x = Checks.loaded("ab,c,d,e:1998:tuv;ab:1998:t;c:2000:t");
        x.print();
        String before = Checks.picture(x);
        x.remove(0);
        due("ab98b", printedMeaning(x, "ab98b"), GONE);
        x.undo();
        due("ab98b", printedMeaning(x, "ab98b"), 0);
        Checks.write(x, "ab,c,d,e:1998:tuv;ab:1998:t;c:2000:t");
        due("all that is seen", Checks.picture(x), before);
        edge(21, "the sixteenth work comes back, and there is no place left again");
        Keys y = alike(16);
        y.remove(15);
        due("undo()", y.undo(), 0);
        due("works", y.about(0), 16);
        due("add()", Checks.answer(() -> y.add()), "throws IllegalStateException");
        edge(21, "the list that was printed before comes back");
        Keys z = Checks.loaded("a:1998:t;b:1998:t");
        z.print();
        z.remove(1);
        z.setStyle(1);
        z.print();
        due("undo()", z.undo(), 3);
        due("b98", printedMeaning(z, "b98"), GONE);
        due("a1998", printedMeaning(z, "a1998"), NONE);
        due("printed keys", z.about(6) + " " + z.about(7), "2 1");
        edge(21, "fourteen different actions are taken back one by one");
        Keys q = Checks.write(new Keys(), "a:1998:t");
        String[] seen = new String[14];
        for (int n = 0; n < 14; n++) {
            seen[n] = q.about(0) + " " + q.about(1) + " " + q.about(2) + " " + q.about(6) + " " + q.about(7);
            switch (n % 7) {
                case 0: q.add(); break;
                case 1: q.setStyle(n % 4); break;
                case 2: q.print(); break;
                case 3: q.setOrder(n == 3 ? 1 : 0); break;
                case 4: q.add(); break;
                case 5: q.remove(0); break;
                default: q.print();
            }
        }
        for (int n = 13; n >= 0; n--) {
            due("undo()", q.undo(), n);
            due("numbers", q.about(0) + " " + q.about(1) + " " + q.about(2) + " " + q.about(6) + " " + q.about(7), seen[n]);
        }
    }
}
