/** The edges that the section "Terms" of the document names, sentence by sentence. */
public final class EdgeTermsTests extends Edges {
    public static void main(String[] args) {
        EdgeTermsTests tests = new EdgeTermsTests();
        tests.works();
        tests.toldWorks();
        tests.years();
        tests.keysOfStyleZero();
        tests.keysOfStyleOne();
        tests.keysOfStyleTwo();
        tests.keysOfStyleThree();
        tests.letters();
        tests.lettersComeAndGo();
        tests.orderOfNames();
        tests.orderOfRows();
        tests.orderOfWorks();
        tests.printedList();
        tests.printedKeysOfChangedWorks();
        tests.printedKeysOfRemovedWorks();
        tests.printedKeysOfAddedWorks();
        tests.state();
        tests.actions();
        tests.remembered();
        tests.notRemembered();
        tests.exceptionsTogether();
        tests.constants();
        tests.end(1, 0);
    }

    private void works() {
        edge("works", "there are at most 16: the sixteenth is taken");
        Keys x = alike(15);
        due("add()", x.add(), 15);
        due("works", x.about(0), 16);
        edge("works", "there are at most 16: the seventeenth is refused");
        refused("add()", () -> alike(16), STATE, y -> y.add());
        edge("works", "there are at most 16: when one of 16 has gone, just one is taken");
        Keys z = alike(16);
        z.remove(15);
        due("add()", z.add(), 15);
        due("add() once more", Checks.answer(() -> z.add()), "throws IllegalStateException");
        due("works", z.about(0), 16);
        edge("works", "they are numbered from 0 in the order in which they were added");
        Keys q = Checks.loaded("c:1999:x;b:1998:y;a:1997:z");
        due("add()", Checks.added(q, "a:1000:a"), 3);
        due("works", Checks.told(q, 0) + " " + Checks.told(q, 1) + " " + Checks.told(q, 2) + " " + Checks.told(q, 3),
            "c:1999:x b:1998:y a:1997:z a:1000:a");
        due("work(4, 0)", Checks.answer(() -> q.work(4, 0)), "throws IndexOutOfBoundsException");
    }

    private void toldWorks() {
        edge("works", "a work has 1 to 4 authors: one is taken");
        taken("ab:1998:t");
        edge("works", "a work has 1 to 4 authors: four are taken");
        taken("ab,cd,ef,gh:1998:t");
        edge("works", "a work has 1 to 4 authors: none is refused");
        noList(":1998:t", 0);
        edge("works", "a work has 1 to 4 authors: five are refused");
        noList("ab,cd,ef,gh,ij:1998:t", 11);
        edge("works", "an author's name has 1 to 8 letters: one and eight are taken, of each author");
        taken("a,b,c,d:1998:t");
        taken("abcdefgh,bcdefghi,cdefghij,defghijk:1998:t");
        edge("works", "an author's name has 1 to 8 letters: none is refused, of each author");
        noList(",b:1998:t", 0);
        noList("a,:1998:t", 2);
        noList("a,,c,d:1998:t", 2);
        noList("a,b,c,:1998:t", 6);
        edge("works", "an author's name has 1 to 8 letters: nine are refused, of each author");
        noList("abcdefghi:1998:t", 8);
        noList("a,abcdefghi:1998:t", 10);
        noList("a,b,c,abcdefghi:1998:t", 14);
        edge("works", "an author's name has letters from a to z: both are taken");
        taken("a:1998:t");
        taken("z:1998:t");
        taken("zazazaza:1998:t");
        edge("works", "an author's name has letters from a to z: the characters beside them are refused");
        noList("`:1998:t", 0);
        noList("{:1998:t", 0);
        noList("a`:1998:t", 1);
        noList("z{:1998:t", 1);
        noList("A:1998:t", 0);
        noList("Z:1998:t", 0);
        edge("works", "a title has 1 to 8 letters: one and eight are taken");
        taken("a:1998:b");
        taken("a:1998:bcdefghi");
        edge("works", "a title has 1 to 8 letters: none is refused");
        noList("a:1998:", 7);
        edge("works", "a title has 1 to 8 letters: nine are refused");
        noList("a:1998:bcdefghij", 15);
        edge("works", "a title has letters from a to z: both are taken, the characters beside them are refused");
        taken("a:1998:a");
        taken("a:1998:z");
        noList("a:1998:`", 7);
        noList("a:1998:{", 7);
        noList("a:1998:a`", 8);
        noList("a:1998:z{", 8);
    }

    private void years() {
        edge("works", "a year is from 1000 to 2999: both are taken");
        taken("a:1000:t");
        taken("a:1999:t");
        taken("a:2000:t");
        taken("a:2999:t");
        edge("works", "a year is from 1000 to 2999: 999 and 3000 are refused");
        noList("a:0999:t", 2);
        noList("a:999:t", 2);
        noList("a:3000:t", 2);
    }

    private void keysOfStyleZero() {
        edge("keys", "the style is 0 at first");
        due("the style", nothing().about(1), 0);
        due("keys", Checks.keys(Checks.loaded("smith,li:1998:t")), "smi98");
        edge("keys", "style 0: the first three letters of the name, of a name with more");
        due("keys", keys("abcd:1998:t;bcdefghi:1998:t", 0), "abc98 bcd98");
        edge("keys", "style 0: all of the name, if it has three letters or fewer");
        due("keys", keys("a:1998:t;bc:1998:t;def:1998:t", 0), "a98 bc98 def98");
        edge("keys", "style 0: only the first author counts");
        due("keys", keys("ab,cd,ef,gh:1998:t", 0), "ab98");
        edge("keys", "style 0: the last two digits of the year, zeros too");
        due("keys", keys("a:1000:t;b:2999:t;c:2000:t;d:1905:t;e:1990:t", 0), "a00 b99 c00 d05 e90");
        edge("keys", "style 0: works a hundred years apart have the same stem, works one year apart have not");
        due("keys", keys("a:1000:t;a:2900:t;a:2999:t", 0), "a00a a00b a99");
    }

    private void keysOfStyleOne() {
        edge("keys", "style 1: the first letter of each author's name, of one author and of four");
        due("keys", keys("smith:1998:t;ab,cd,ef,gh:1998:t", 1), "s1998 aceg1998");
        edge("keys", "style 1: the authors' letters are in the authors' order");
        due("keys", keys("zb,ab:1998:t;ab,zb:1998:t", 1), "za1998 az1998");
        edge("keys", "style 1: the four digits of the year, also of the least and the greatest");
        due("keys", keys("a:1000:t;a:2999:t;a:1100:t", 1), "a1000 a2999 a1100");
        edge("keys", "style 1: the authors' number makes another stem");
        due("keys", keys("a,b,c,d:1998:t;a,b,c:1998:t;a,b:1998:t;a:1998:t", 1), "abcd1998 abc1998 ab1998 a1998");
        edge("keys", "style 1: the title and the letters behind the first ones do not count");
        due("keys", keys("ax,by:1998:t;az,bz:1998:u", 1), "ab1998a ab1998b");
    }

    private void keysOfStyleTwo() {
        edge("keys", "style 2: the whole name, of one letter and of eight");
        due("keys", keys("a:1998:t;abcdefgh:1998:t;abcdefgi:1998:t", 2), "a98 abcdefgh98 abcdefgi98");
        edge("keys", "style 2: the sign + if there are more authors: none with one author");
        due("keys", keys("ab:1998:t", 2), "ab98");
        edge("keys", "style 2: the sign + if there are more authors: one with two authors");
        due("keys", keys("ab,c:1998:t", 2), "ab+98");
        edge("keys", "style 2: the sign + if there are more authors: one with four authors");
        due("keys", keys("ab,c,d,e:1998:t;abcdefgh,c,d:2000:t", 2), "ab+98 abcdefgh+00");
        edge("keys", "style 2: a name with + and one without are two stems, whoever the other authors are one");
        due("keys", keys("ab:1998:t;ab,c:1998:t;ab,d,e:1998:t", 2), "ab98 ab+98a ab+98b");
        edge("keys", "style 2: the last two digits of the year, zeros too");
        due("keys", keys("a:1000:t;b:2999:t;c,d:2905:t", 2), "a00 b99 c+05");
    }

    private void keysOfStyleThree() {
        edge("keys", "style 3: the first letters of the first name and of the title, of short ones and long ones");
        due("keys", keys("a:1998:z;abcdefgh,q:1998:bcdefghi", 3), "az1998 ab1998");
        edge("keys", "style 3: the four digits of the year, also of the least and the greatest");
        due("keys", keys("a:1000:z;a:2999:z", 3), "az1000 az2999");
        edge("keys", "style 3: another title makes another stem only by its first letter");
        due("keys", keys("a:1998:tb;a:1998:ta;a:1998:u", 3), "at1998b at1998a au1998");
    }

    private void letters() {
        edge("keys", "if no other work has the same stem, the key is the stem");
        due("keys", keys("ab:1998:t;abc:1998:t;ab:1997:t", 0), "ab98 abc98 ab97");
        edge("keys", "otherwise all works with this stem have a letter: two have a and b");
        due("keys", keys("ab:1998:u;ab:1998:t;ac:1998:t", 0), "ab98b ab98a ac98");
        edge("keys", "otherwise all works with this stem have a letter: sixteen have a to p");
        Keys x = alike(16);
        due("keys", Checks.keys(x),
            "a98a a98b a98c a98d a98e a98f a98g a98h a98i a98j a98k a98l a98m a98n a98o a98p");
        edge("keys", "each stem has letters of its own, from a on");
        due("keys", keys("b:1998:t;a:1998:t;b:1998:t;a:1998:t;c:1998:t", 0), "b98a a98a b98b a98b c98");
        edge("keys", "the letters go through the works in the order that is set");
        Keys y = Checks.loaded("abc:2098:t;abcd:1998:t");
        due("keys with the order 0", Checks.keys(y), "abc98a abc98b");
        y.setOrder(1);
        due("keys with the order 1", Checks.keys(y), "abc98b abc98a");
        edge("keys", "no two works have the same key, also works that are alike in everything");
        due("keys", keys("a:1998:t;a:1998:t;a:1998:t", 3), "at1998a at1998b at1998c");
    }

    private void lettersComeAndGo() {
        edge("keys", "a second work with the stem gives the first one a letter");
        Keys x = Checks.loaded("ab:1998:t");
        due("keys", Checks.keys(x), "ab98");
        Checks.added(x, "ab:1998:a");
        due("keys", Checks.keys(x), "ab98b ab98a");
        edge("keys", "when one of three goes, the other two have a and b");
        Checks.added(x, "ab:1998:s");
        due("keys", Checks.keys(x), "ab98c ab98a ab98b");
        x.remove(1);
        due("keys", Checks.keys(x), "ab98b ab98a");
        edge("keys", "when one of two goes, the other one has no letter any more");
        x.remove(1);
        due("keys", Checks.keys(x), "ab98");
    }

    private void orderOfNames() {
        edge("order of works", "two names are in the order of their first letters that differ: of the first letters");
        due("order", order("b:1998:t;a:1998:t", 0), "1 0");
        due("order", order("ba:1998:t;ab:1998:t", 0), "1 0");
        due("order", order("z:1998:t;yzzzzzzz:1998:t", 0), "1 0");
        edge("order of works", "two names are in the order of their first letters that differ: of the eighth letters");
        due("order", order("abcdefgz:1998:t;abcdefga:1998:t", 0), "1 0");
        edge("order of works", "if one name is the beginning of the other one, the shorter one is first");
        due("order", order("ab:1998:t;a:1998:t", 0), "1 0");
        due("order", order("abcdefgh:1998:t;abcdefg:1998:t", 0), "1 0");
        edge("order of works", "a shorter name that is no beginning is not first for its length");
        due("order", order("b:1998:t;aaaaaaaa:1998:t", 0), "1 0");
        edge("order of works", "titles are in order as names");
        due("order", order("a:1998:ab;a:1998:b;a:1998:a;a:1998:aaaaaaaa", 0), "2 3 0 1");
        due("order", order("a:1998:ab;a:1998:b;a:1998:a;a:1998:aaaaaaaa", 1), "2 3 0 1");
        due("order", order("a:1998:abcdefgz;a:1998:abcdefga;a:1998:abcdefg", 0), "2 1 0");
    }

    private void orderOfRows() {
        edge("order of works", "two rows are in the order of the first names that differ: of the first names");
        due("order", order("b,a:1998:t;a,b:1998:t", 0), "1 0");
        due("order", order("aa,a:1998:t;a,z:1998:t", 0), "1 0");
        edge("order of works", "two rows are in the order of the first names that differ: of the fourth names");
        due("order", order("a,b,c,e:1998:t;a,b,c,d:1998:t", 0), "1 0");
        due("order", order("a,b,c,dd:1998:t;a,b,c,d:1998:t", 0), "1 0");
        edge("order of works", "two rows are in the order of the first names that differ, whatever comes behind");
        due("order", order("a,c,a,a:1998:t;a,b,z,z:1998:t", 0), "1 0");
        edge("order of works", "if one row is the beginning of the other one, the one with fewer authors is first");
        due("order", order("a,b:1998:t;a:1998:t", 0), "1 0");
        due("order", order("a,b,c,d:1998:t;a,b,c:1998:t", 0), "1 0");
        edge("order of works", "a row with fewer authors that is no beginning is not first for it");
        due("order", order("b:1998:t;a,b,c,d:1998:t", 0), "1 0");
        due("order", order("a,b:1998:t;a,a,c:1998:t", 0), "1 0");
    }

    private void orderOfWorks() {
        edge("order of works", "the order is 0 at first");
        due("the order", nothing().about(2), 0);
        due("order", Checks.order(Checks.loaded("b:1997:t;a:1998:t")), "1 0");
        edge("order of works", "with the order 0, rows of authors are before years");
        due("order", order("b:1000:a;a:2999:z", 0), "1 0");
        edge("order of works", "with the order 0, years are before titles, for the same authors");
        due("order", order("a:1999:a;a:1998:z", 0), "1 0");
        due("order", order("a:2999:a;a:1000:z", 0), "1 0");
        edge("order of works", "with the order 0, titles are before numbers, for the same authors and years");
        due("order", order("a:1998:z;a:1998:a", 0), "1 0");
        edge("order of works", "with the order 0, works alike in everything are in the order of their numbers");
        due("order", order("a:1998:t;a:1998:t;a:1998:t", 0), "0 1 2");
        edge("order of works", "with the order 1, years are before rows of authors");
        due("order", order("a:1999:a;b:1998:z", 1), "1 0");
        due("order", order("a:2999:a;z:1000:z", 1), "1 0");
        edge("order of works", "with the order 1, rows of authors are before titles, for the same years");
        due("order", order("b:1998:a;a:1998:z", 1), "1 0");
        edge("order of works", "with the order 1, titles are before numbers, for the same years and authors");
        due("order", order("a:1998:z;a:1998:a", 1), "1 0");
        edge("order of works", "with the order 1, works alike in everything are in the order of their numbers");
        due("order", order("a:1998:t;a:1998:t;a:1998:t", 1), "0 1 2");
        edge("order of works", "two of 16 works that are alike are in the order of their numbers");
        due("order", Checks.order(alike(16)), "0 1 2 3 4 5 6 7 8 9 10 11 12 13 14 15");
    }

    private void printedList() {
        edge("printed list", "at first nothing is printed");
        Keys x = Checks.loaded("a:1998:t");
        due("printed keys", x.about(6), 0);
        due("of none", x.about(7), 0);
        due("printed", printed(x), "0 0 0");
        due("a98", printedMeaning(x, "a98"), NONE);
        edge("printed list", "the list as it is then replaces the one before");
        x.print();
        due("a98", printedMeaning(x, "a98"), 0);
        x.setStyle(1);
        due("a98 before the second print", printedMeaning(x, "a98"), 0);
        due("a1998 before the second print", printedMeaning(x, "a1998"), NONE);
        x.print();
        due("a98", printedMeaning(x, "a98"), NONE);
        due("a1998", printedMeaning(x, "a1998"), 0);
        due("printed keys", x.about(6), 1);
        edge("printed list", "a shorter list replaces a longer one, an empty one too");
        Keys y = Checks.loaded("a:1998:t;b:1998:t");
        y.print();
        y.remove(1);
        due("print()", y.print(), 1);
        due("printed keys", y.about(6), 1);
        due("b98", printedMeaning(y, "b98"), NONE);
        y.remove(0);
        due("print()", y.print(), 0);
        due("printed keys", y.about(6), 0);
        due("printed keys of none", y.about(7), 0);
        due("a98", printedMeaning(y, "a98"), NONE);
    }

    private void printedKeysOfChangedWorks() {
        edge("printed list", "each printed key belongs to the work that has it then, also if another one has it later");
        Keys x = Checks.loaded("a:1998:m;a:1998:z");
        x.print();
        Checks.added(x, "a:1998:a");
        due("keys", Checks.keys(x), "a98b a98c a98a");
        due("a98a", printedMeaning(x, "a98a"), 0);
        due("a98b", printedMeaning(x, "a98b"), 1);
        due("a98c", printedMeaning(x, "a98c"), NONE);
        edge("printed list", "a work that is changed stays the same work: by change");
        Checks.write(x, "other:2222:b").change(0);
        due("a98a", printedMeaning(x, "a98a"), 0);
        edge("printed list", "a work that is changed stays the same work: by setYear");
        x.setYear(1, 2999);
        due("a98b", printedMeaning(x, "a98b"), 1);
        edge("printed list", "a printed key stays a printed key when style and order are others");
        x.setStyle(2);
        x.setOrder(1);
        due("a98a", printedMeaning(x, "a98a"), 0);
        due("printed keys", x.about(6), 2);
    }

    private void printedKeysOfRemovedWorks() {
        edge("printed list", "the printed key of a removed work stays in the list and belongs to none any more");
        Keys x = Checks.loaded("a:1998:t;b:1998:t;c:1998:t");
        x.print();
        x.remove(1);
        due("printed keys", x.about(6), 3);
        due("of none", x.about(7), 1);
        due("b98", printedMeaning(x, "b98"), GONE);
        edge("printed list", "the printed keys of works behind and before a removed one still belong to them");
        due("a98", printedMeaning(x, "a98"), 0);
        due("c98", printedMeaning(x, "c98"), 1);
        edge("printed list", "the key of none still belongs to none when works go, come, and are changed");
        Checks.added(x, "b:1998:t");
        due("b98", printedMeaning(x, "b98"), GONE);
        x.remove(0);
        due("b98", printedMeaning(x, "b98"), GONE);
        due("a98", printedMeaning(x, "a98"), GONE);
        due("c98", printedMeaning(x, "c98"), 0);
        due("of none", x.about(7), 2);
        edge("printed list", "all printed keys can belong to none");
        x.remove(0);
        x.remove(0);
        due("printed keys", x.about(6), 3);
        due("of none", x.about(7), 3);
        due("c98", printedMeaning(x, "c98"), GONE);
    }

    private void printedKeysOfAddedWorks() {
        edge("printed list", "a work that was added since has no printed key, also if a printed key is its key");
        Keys x = Checks.loaded("a:1998:t;b:1998:t");
        x.print();
        x.remove(0);
        Checks.added(x, "a:1998:t");
        due("meaning of a98", meaning(x, "a98"), 1);
        due("printed meaning of a98", printedMeaning(x, "a98"), GONE);
        due("printed", printed(x), "1 0 1");
        edge("printed list", "when a work goes that was added since, no printed key belongs to none for it");
        x.remove(1);
        due("of none", x.about(7), 1);
        due("b98", printedMeaning(x, "b98"), 0);
    }

    private void state() {
        edge("actions and undo", "the state is everything but the text: undo keeps the text");
        Keys x = Checks.loaded("a:1998:t");
        x.print();
        Checks.write(x, "a:1998:u").add();
        Checks.write(x, "a:1998:v;");
        x.undo();
        due("errorPosition()", x.errorPosition(), 9);
        due("clearText()", x.clearText(), 9);
        edge("actions and undo", "the state is everything but the save slots: undo keeps what is in them, and what is not");
        Keys y = Checks.loaded("a:1998:t");
        y.setYear(0, 1500);
        y.save(1);
        y.undo();
        due("restore(0)", Checks.answer(() -> y.restore(0)), "throws IllegalStateException");
        due("restore(1)", y.restore(1), 1);
        due("the year", y.work(0, 0), 1500);
        edge("actions and undo", "the state is everything else: works, style, order and the printed list come back");
        Keys z = busy();
        String before = Checks.picture(z);
        z.setStyle(3);
        z.setOrder(0);
        z.print();
        z.remove(0);
        z.change(0);
        for (int n = 0; n < 5; n++) {
            z.undo();
        }
        due("all that is seen", Checks.picture(z), before);
    }

    private void actions() {
        edge("actions and undo", "a call that makes nothing different is an action: setYear to the year that is");
        Keys x = Checks.loaded("a:1998:t");
        due("setYear(0, 1998)", x.setYear(0, 1998), 0);
        due("undo()", x.undo(), 0);
        edge("actions and undo", "a call that makes nothing different is an action: setStyle to the style that is");
        due("setStyle(0)", x.setStyle(0), 0);
        due("undo()", x.undo(), 0);
        edge("actions and undo", "a call that makes nothing different is an action: setOrder to the order that is");
        due("setOrder(0)", x.setOrder(0), 0);
        due("undo()", x.undo(), 0);
        edge("actions and undo", "a call that makes nothing different is an action: change into the work that is");
        due("change(0)", x.change(0), 0);
        due("undo()", x.undo(), 0);
        edge("actions and undo", "a call that makes nothing different is an action: print of what is printed, or of nothing");
        x.print();
        x.print();
        due("undo()", x.undo(), 1);
        due("printed keys", x.about(6), 1);
        due("undo()", x.undo(), 0);
        Keys y = nothing();
        due("print()", y.print(), 0);
        due("undo()", y.undo(), 0);
        edge("actions and undo", "undo is none: what is taken back can not be taken back again");
        Keys z = acted(2);
        due("undo()", z.undo(), 1);
        due("undo()", z.undo(), 0);
        due("undo()", Checks.answer(() -> z.undo()), "throws IllegalStateException");
        due("the year", z.work(0, 0), 1000);
        edge("actions and undo", "each of the seven is an action");
        Keys q = Checks.write(new Keys(), "a:1998:t");
        q.add();
        q.change(0);
        q.setYear(0, 2000);
        q.setStyle(1);
        q.setOrder(1);
        q.print();
        q.remove(0);
        due("undo()", q.undo(), 6);
    }

    private void allTakenBack(int done, int first) {
        Keys x = acted(done);
        for (int kept = done - first - 1; kept >= 0; kept--) {
            due("undo()", x.undo(), kept);
            due("the year", x.work(0, 0), 1000 + first + kept);
        }
        due("one undo more", Checks.answer(() -> x.undo()), "throws IllegalStateException");
        due("the year", x.work(0, 0), 1000 + first);
    }

    private void remembered() {
        edge("actions and undo", "before the first action nothing is remembered");
        allTakenBack(0, 0);
        edge("actions and undo", "before each action the state is remembered: of one action");
        allTakenBack(1, 0);
        edge("actions and undo", "at most 14 states are remembered: of 13 and of 14 actions all");
        allTakenBack(13, 0);
        allTakenBack(14, 0);
        edge("actions and undo", "when one more is remembered, the oldest one is forgotten: of 15 actions the first");
        allTakenBack(15, 1);
        edge("actions and undo", "the oldest ones are forgotten: of 16, 28, 29 and 60 actions all but the last 14");
        allTakenBack(16, 2);
        allTakenBack(28, 14);
        allTakenBack(29, 15);
        allTakenBack(60, 46);
        edge("actions and undo", "when some were taken back, there is place for as many before one is forgotten");
        Keys x = acted(20);
        for (int n = 0; n < 5; n++) {
            x.undo();
        }
        for (int n = 1; n <= 5; n++) {
            x.setYear(0, 2000 + n);
        }
        for (int kept = 13; kept >= 9; kept--) {
            due("undo()", x.undo(), kept);
        }
        due("the year", x.work(0, 0), 1015);
        for (int kept = 8; kept >= 0; kept--) {
            due("undo()", x.undo(), kept);
        }
        due("the year", x.work(0, 0), 1006);
        due("one undo more", Checks.answer(() -> x.undo()), "throws IllegalStateException");
    }

    private void notRemembered() {
        edge("actions and undo", "load is not an action, and leaves nothing to be taken back");
        Keys x = acted(3);
        x.load();
        due("undo()", Checks.answer(() -> x.undo()), "throws IllegalStateException");
        edge("actions and undo", "restore is not an action, and leaves nothing to be taken back");
        Keys y = acted(3);
        y.save(0);
        y.restore(0);
        due("undo()", Checks.answer(() -> y.undo()), "throws IllegalStateException");
        edge("actions and undo", "a call that throws is not an action");
        Keys z = Checks.loaded("a:1998:t;b:1998:t");
        z.setStyle(0);
        due("add()", Checks.answer(() -> z.add()), "throws IllegalStateException");
        due("change(0)", Checks.answer(() -> z.change(0)), "throws IllegalStateException");
        due("setYear(0, 999)", Checks.answer(() -> z.setYear(0, 999)), "throws IllegalArgumentException");
        due("remove(2)", Checks.answer(() -> z.remove(2)), "throws IndexOutOfBoundsException");
        due("setStyle(4)", Checks.answer(() -> z.setStyle(4)), "throws IllegalArgumentException");
        due("setOrder(2)", Checks.answer(() -> z.setOrder(2)), "throws IllegalArgumentException");
        due("undo()", z.undo(), 0);
        edge("actions and undo", "text, looks, what would be, scripts, simulations and saving are no actions");
        Keys q = Checks.loaded("a:1998:t");
        q.setStyle(2);
        Checks.picture(q);
        q.append('a');
        q.clearText();
        q.ifRemoved(0);
        q.freeYear(0);
        q.lettersWith(1);
        q.bestStyle();
        q.weightiest();
        q.runScript(4, 1000200130017000L);
        q.simulate(3, 99);
        q.save(0);
        due("undo()", q.undo(), 0);
        due("the style", q.about(1), 0);
    }

    private void exceptionsTogether() {
        edge("exceptions", "append: c out of range is named before a full text");
        refused("append(256)", () -> busyWith("a".repeat(100)), ARGUMENT, x -> x.append(256));
        refused("append(-1)", () -> busyWith("a".repeat(100)), ARGUMENT, x -> x.append(-1));
        edge("exceptions", "work: no such work is named before another what");
        refused("work(3, 7)", Edges::busy, INDEX, x -> x.work(3, 7));
        refused("work(-1, -1)", Edges::busy, INDEX, x -> x.work(-1, -1));
        edge("exceptions", "letter: no such work is named before author and place out of range");
        refused("letter(3, 9, -1)", Edges::busy, INDEX, x -> x.letter(3, 9, -1));
        refused("letter(-1, -1, -1)", Edges::busy, INDEX, x -> x.letter(-1, -1, -1));
        edge("exceptions", "key: no such work is named before a negative place");
        refused("key(3, -1)", Edges::busy, INDEX, x -> x.key(3, -1));
        refused("key(-1, -1)", Edges::busy, INDEX, x -> x.key(-1, -1));
        edge("exceptions", "change: no such work is named before a text that is not a list of one work");
        refused("change(3)", () -> busyWith(""), INDEX, x -> x.change(3));
        refused("change(-1)", () -> busyWith("a:1998:t;a:1998:t"), INDEX, x -> x.change(-1));
        edge("exceptions", "setYear: no such work is named before a year out of range");
        refused("setYear(3, 3000)", Edges::busy, INDEX, x -> x.setYear(3, 3000));
        refused("setYear(-1, 999)", Edges::busy, INDEX, x -> x.setYear(-1, 999));
        edge("exceptions", "restore: no such slot is named before nothing saved");
        refused("restore(2)", Edges::nothing, INDEX, x -> x.restore(2));
        refused("restore(-1)", Edges::nothing, INDEX, x -> x.restore(-1));
        edge("exceptions", "add: with 16 works and a text that is no list of one it is still IllegalStateException");
        refused("add()", () -> Checks.write(alike(16), "a:1998:"), STATE, x -> x.add());
        refused("add()", () -> Checks.write(alike(16), "a:1998:t;a:1998:t"), STATE, x -> x.add());
    }

    private void constants() {
        edge("constants", "NONE is -9: there is no such result");
        due("NONE", CitationKeys.NONE, -9);
        due("at(0)", nothing().at(0), -9);
        edge("constants", "GONE is -2: the work was removed");
        due("GONE", CitationKeys.GONE, -2);
        Keys x = Checks.loaded("a:1998:t");
        x.print();
        x.remove(0);
        due("printedMeaning()", printedMeaning(x, "a98"), -2);
    }
}
