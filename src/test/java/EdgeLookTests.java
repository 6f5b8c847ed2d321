/** The edges that the promises 6 to 13 name: what there is. */
public final class EdgeLookTests extends Edges {
    private static final int[] NEGATIVE = {-1, -2, -8, -256, MIN + 1, MIN};

    public static void main(String[] args) {
        EdgeLookTests tests = new EdgeLookTests();
        tests.about();
        tests.aboutLettersAndStems();
        tests.aboutTheLongestKey();
        tests.aboutPrintedKeys();
        tests.work();
        tests.workLengths();
        tests.workLettersAndPlaces();
        tests.letter();
        tests.letterRefuses();
        tests.key();
        tests.keyRefuses();
        tests.at();
        tests.meaning();
        tests.meaningOfAlmostKeys();
        tests.printedMeaning();
        tests.printedCounts();
        tests.printedKeysOfNone();
        tests.changesNothing();
        tests.end(6, 13);
    }

    private void about() {
        edge(6, "what is 0 to 7: all are taken");
        Keys x = busy();
        due("0: works", x.about(0), 3);
        due("1: the style", x.about(1), 0);
        due("2: the order", x.about(2), 1);
        due("3: works with a letter", x.about(3), 0);
        due("4: different stems", x.about(4), 3);
        due("5: the longest key", x.about(5), 5);
        due("6: printed keys", x.about(6), 3);
        due("7: printed keys of none", x.about(7), 1);
        edge(6, "what is 0 to 7: -1 and 8 are refused, and what is farther");
        for (int what : outside(0, 7)) {
            refused("about(" + what + ")", Edges::busy, ARGUMENT, y -> y.about(what));
            refused("about(" + what + ") of nothing", Edges::nothing, ARGUMENT, y -> y.about(what));
        }
        edge(6, "0: the number of works: 0, 1 and 16");
        due("works", nothing().about(0), 0);
        due("works", alike(1).about(0), 1);
        due("works", alike(16).about(0), 16);
        edge(6, "1: the style: each of the four");
        for (int style = 0; style <= 3; style++) {
            Keys y = nothing();
            y.setStyle(style);
            due("the style", y.about(1), style);
            due("the order", y.about(2), 0);
        }
        edge(6, "2: the order: both");
        for (int order = 0; order <= 1; order++) {
            Keys y = nothing();
            y.setOrder(order);
            due("the order", y.about(2), order);
            due("the style", y.about(1), 0);
        }
    }

    private void letters(String text, int letters, int stems) {
        Keys x = Checks.loaded(text);
        due("works with a letter of " + text, x.about(3), letters);
        due("different stems of " + text, x.about(4), stems);
    }

    private void aboutLettersAndStems() {
        edge(6, "3 and 4: without works there are no letters and no stems");
        due("letters", nothing().about(3), 0);
        due("stems", nothing().about(4), 0);
        edge(6, "3 and 4: of works with stems of their own none has a letter");
        letters("a:1998:t", 0, 1);
        letters("a:1998:t;b:1998:t;c:1998:t", 0, 3);
        edge(6, "3 and 4: of works with the same stem each has a letter, and they are one stem");
        letters("a:1998:t;a:1998:t", 2, 1);
        due("letters of 16", alike(16).about(3), 16);
        due("stems of 16", alike(16).about(4), 1);
        edge(6, "3 and 4: a stem of three, one of two, and one of one");
        letters("a:1998:t;b:1998:t;a:1998:t;b:1998:t;a:1998:t;c:1998:t", 5, 3);
        edge(6, "3 and 4: both are of the style that is set");
        Keys x = Checks.loaded("ab:1998:t;ac:1998:t");
        due("letters and stems", x.about(3) + " " + x.about(4), "0 2");
        x.setStyle(1);
        due("letters and stems", x.about(3) + " " + x.about(4), "2 1");
    }

    private void longest(String text, int style, int want) {
        Keys x = Checks.loaded(text);
        x.setStyle(style);
        due("the longest key of " + text + " with the style " + style, x.about(5), want);
    }

    private void aboutTheLongestKey() {
        edge(6, "5: the length of the longest key is 0 without works");
        due("the longest key", nothing().about(5), 0);
        Keys x = alike(1);
        due("the longest key", x.about(5), 3);
        x.remove(0);
        due("the longest key", x.about(5), 0);
        edge(6, "5: the longest key of each style, with and without a letter");
        longest("a:1998:t", 0, 3);
        longest("abcd:1998:t", 0, 5);
        longest("abcd:1998:t;abc:1998:t", 0, 6);
        longest("a:1998:t", 1, 5);
        longest("a,b,c,d:1998:t", 1, 8);
        longest("a,b,c,d:1998:t;a,b,c,d:1998:u", 1, 9);
        longest("a:1998:t", 2, 3);
        longest("abcdefgh:1998:t", 2, 10);
        longest("abcdefgh,b:1998:t", 2, 11);
        longest("abcdefgh,b:1998:t;abcdefgh,c:1998:t", 2, 12);
        longest("abcdefgh,q:1998:tuvwxyz", 3, 6);
        longest("a:1998:t;a:1998:t", 3, 7);
        edge(6, "5: the longest key can be of the first work and of the last one");
        longest("abc:1998:t;a:1998:t;b:1998:t", 0, 5);
        longest("a:1998:t;b:1998:t;abc:1998:t", 0, 5);
    }

    private void aboutPrintedKeys() {
        edge(6, "6 and 7: nothing is printed at first");
        due("printed keys", alike(2).about(6), 0);
        due("of none", alike(2).about(7), 0);
        edge(6, "6 and 7: 16 printed keys, and none, one and all of them belong to none any more");
        Keys x = alike(16);
        x.print();
        due("printed keys", x.about(6), 16);
        due("of none", x.about(7), 0);
        for (int gone = 1; gone <= 16; gone++) {
            x.remove(0);
            due("printed keys", x.about(6), 16);
            due("of none", x.about(7), gone);
        }
        edge(6, "6 and 7: works that are added do not count");
        x.add();
        due("printed keys", x.about(6), 16);
        due("of none", x.about(7), 16);
    }

    private void noWork(int i) {
        for (int what = 0; what <= 6; what++) {
            int told = what;
            refused("work(" + i + ", " + what + ")", Edges::busy, INDEX, x -> x.work(i, told));
        }
    }

    private void work() {
        edge(7, "what is 0 to 6: all are taken");
        Keys x = Checks.loaded("b,c,d:2998:abcd;b:1998:abc;a:1000:c");
        due("0: the year", x.work(0, 0), 2998);
        due("1: authors", x.work(0, 1), 3);
        due("2: the title's length", x.work(0, 2), 4);
        due("3: the key's length", x.work(0, 3), 4);
        due("4: the letter", x.work(0, 4), 2);
        due("5: the place", x.work(0, 5), 2);
        due("6: works with its stem", x.work(0, 6), 2);
        edge(7, "what is 0 to 6: -1 and 7 are refused, and what is farther");
        for (int what : outside(0, 6)) {
            refused("work(0, " + what + ")", Edges::busy, ARGUMENT, y -> y.work(0, what));
            refused("work(2, " + what + ")", Edges::busy, ARGUMENT, y -> y.work(2, what));
        }
        edge(7, "there is such a work: the first and the last of 3 and of 16");
        due("work(2, 0)", x.work(2, 0), 1000);
        due("work(0, 0)", alike(16).work(0, 0), 1998);
        due("work(15, 0)", alike(16).work(15, 0), 1998);
        edge(7, "there is no such work: -1, as many as there are, and what is farther");
        for (int i : outside(0, 2)) {
            noWork(i);
        }
        refused("work(16, 0)", () -> alike(16), INDEX, y -> y.work(16, 0));
        refused("work(15, 0)", () -> alike(15), INDEX, y -> y.work(15, 0));
        edge(7, "there is no such work: the last one is gone");
        Keys z = alike(2);
        z.remove(0);
        due("work(0, 0)", z.work(0, 0), 1998);
        due("work(1, 0)", Checks.answer(() -> z.work(1, 0)), "throws IndexOutOfBoundsException");
    }

    private void workLengths() {
        edge(7, "0: its year: the least and the greatest");
        due("the year", Checks.loaded("a:1000:t").work(0, 0), 1000);
        due("the year", Checks.loaded("a:2999:t").work(0, 0), 2999);
        edge(7, "1: the number of its authors: 1 and 4");
        due("authors", Checks.loaded("abcdefgh:1998:t").work(0, 1), 1);
        due("authors", Checks.loaded("a,b,c,d:1998:t").work(0, 1), 4);
        edge(7, "2: the length of its title: 1 and 8");
        due("the title's length", Checks.loaded("a:1998:t").work(0, 2), 1);
        due("the title's length", Checks.loaded("a:1998:abcdefgh").work(0, 2), 8);
        edge(7, "3: the length of its key: 3 is the least, 12 the greatest, with letter and without");
        due("the key's length", Checks.loaded("a:1998:t").work(0, 3), 3);
        Keys x = Checks.loaded("abcdefgh,b:1998:t;abcdefgh,c:1998:t;abcdefgh:1998:t");
        x.setStyle(2);
        due("the key's length", x.work(0, 3), 12);
        due("the key's length", x.work(1, 3), 12);
        due("the key's length", x.work(2, 3), 10);
    }

    private void workLettersAndPlaces() {
        edge(7, "4: which letter it has: 0 for none");
        due("the letter", Checks.loaded("a:1998:t").work(0, 4), 0);
        due("the letter", Checks.loaded("a:1998:t;b:1998:t").work(1, 4), 0);
        edge(7, "4: which letter it has: 1 and 2 of two, 16 the last of sixteen");
        Keys x = Checks.loaded("a:1998:u;a:1998:t");
        due("the letter", x.work(0, 4), 2);
        due("the letter", x.work(1, 4), 1);
        Keys y = alike(16);
        due("the letter", y.work(0, 4), 1);
        due("the letter", y.work(15, 4), 16);
        edge(7, "5: its place: 0 the only one, 15 the last of sixteen");
        due("the place", Checks.loaded("a:1998:t").work(0, 5), 0);
        due("the place", y.work(0, 5), 0);
        due("the place", y.work(15, 5), 15);
        edge(7, "5: its place in the order that is set");
        Keys z = Checks.loaded("a:1999:t;b:1998:t");
        due("places", z.work(0, 5) + " " + z.work(1, 5), "0 1");
        z.setOrder(1);
        due("places", z.work(0, 5) + " " + z.work(1, 5), "1 0");
        edge(7, "6: how many works have its stem, itself included: 1 alone, 16 of sixteen");
        due("works with its stem", Checks.loaded("a:1998:t;b:1998:t").work(0, 6), 1);
        due("works with its stem", y.work(0, 6), 16);
        due("works with its stem", y.work(15, 6), 16);
    }

    private void letter() {
        Keys x = Checks.loaded("abcdefgz,q,rs,t:1998:u;y:1998:bcdefghi");
        edge(8, "k: the first letter is 0, the last of eight is 7, and there is none with 8");
        due("letter(0, 0, 0)", x.letter(0, 0, 0), (int) 'a');
        due("letter(0, 0, 7)", x.letter(0, 0, 7), (int) 'z');
        due("letter(0, 0, 8)", x.letter(0, 0, 8), NONE);
        edge(8, "k: of a name of one letter there is none with 1");
        due("letter(0, 1, 0)", x.letter(0, 1, 0), (int) 'q');
        due("letter(0, 1, 1)", x.letter(0, 1, 1), NONE);
        due("letter(0, 3, 0)", x.letter(0, 3, 0), (int) 't');
        due("letter(0, 3, 1)", x.letter(0, 3, 1), NONE);
        edge(8, "k: none with any greater number");
        due("letter(0, 0, 9)", x.letter(0, 0, 9), NONE);
        due("letter(0, 2, 2)", x.letter(0, 2, 2), NONE);
        due("letter(0, 2, 7)", x.letter(0, 2, 7), NONE);
        due("letter(0, 0, MAX)", x.letter(0, 0, MAX), NONE);
        for (int k : from(8)) {
            due("letter(0, 0, " + k + ")", x.letter(0, 0, k), NONE);
        }
        due("letter(0, 4, MAX)", x.letter(0, 4, MAX), NONE);
        edge(8, "a: the number of its authors for the title: 1 of one author, 4 of four");
        due("letter(0, 4, 0)", x.letter(0, 4, 0), (int) 'u');
        due("letter(0, 4, 1)", x.letter(0, 4, 1), NONE);
        due("letter(1, 1, 0)", x.letter(1, 1, 0), (int) 'b');
        due("letter(1, 1, 7)", x.letter(1, 1, 7), (int) 'i');
        due("letter(1, 1, 8)", x.letter(1, 1, 8), NONE);
        edge(8, "a: the last author is one less");
        due("letter(0, 2, 1)", x.letter(0, 2, 1), (int) 's');
        due("letter(1, 0, 0)", x.letter(1, 0, 0), (int) 'y');
    }

    private void letterRefuses() {
        edge(8, "a is out of range: -1, and one more than the number of its authors");
        for (int a : outside(0, 2)) {
            refused("letter(0, " + a + ", 0)", Edges::busy, ARGUMENT, x -> x.letter(0, a, 0));
        }
        refused("letter(1, 2, 0)", Edges::busy, ARGUMENT, x -> x.letter(1, 2, 0));
        refused("letter(0, 5, 0) of four authors", () -> Checks.loaded("a,b,c,d:1998:t"), ARGUMENT, x -> x.letter(0, 5, 0));
        edge(8, "a is in range: 0 and the number of its authors");
        due("letter(0, 0, 0)", busy().letter(0, 0, 0), (int) 's');
        due("letter(0, 2, 0)", busy().letter(0, 2, 0), (int) 'o');
        edge(8, "k is negative: -1 and the least number are refused, also for a title");
        for (int k : NEGATIVE) {
            refused("letter(0, 0, " + k + ")", Edges::busy, ARGUMENT, x -> x.letter(0, 0, k));
            refused("letter(0, 2, " + k + ")", Edges::busy, ARGUMENT, x -> x.letter(0, 2, k));
        }
        edge(8, "there is no such work: -1, as many as there are, and what is farther");
        for (int i : outside(0, 2)) {
            refused("letter(" + i + ", 0, 0)", Edges::busy, INDEX, x -> x.letter(i, 0, 0));
        }
        refused("letter(16, 0, 0)", () -> alike(16), INDEX, x -> x.letter(16, 0, 0));
    }

    private String lastSigns(Keys x, int i, int length) {
        return (char) x.key(i, length - 1) + " " + x.key(i, length) + " " + x.key(i, MAX);
    }

    private void key() {
        edge(9, "k: the first character is 0, and there is none with the length of the key");
        Keys x = Checks.loaded("smith:1905:b;li:2000:x;smi:1805:a");
        due("key(0, 0)", x.key(0, 0), (int) 's');
        due("key(1, 0)", x.key(1, 0), (int) 'l');
        due("the last ones", lastSigns(x, 0, 6), "b -9 -9");
        due("the last ones without letter", lastSigns(x, 1, 4), "0 -9 -9");
        due("the last ones", lastSigns(x, 2, 6), "a -9 -9");
        edge(9, "k: the same of the longest key and of the shortest one");
        Keys y = Checks.loaded("abcdefgh,b:1998:t;abcdefgh,c:1998:t;a:1998:t");
        y.setStyle(2);
        due("the last ones", lastSigns(y, 0, 12), "a -9 -9");
        due("the last ones", lastSigns(y, 1, 12), "b -9 -9");
        due("the last ones", lastSigns(y, 2, 3), "8 -9 -9");
        due("the key", Checks.key(y, 0), "abcdefgh+98a");
        edge(9, "k: none with any greater number");
        for (int k : from(12)) {
            due("key(0, " + k + ")", y.key(0, k), NONE);
        }
        edge(9, "the code of each kind of character: letters, +, digits");
        due("key(0, 8)", y.key(0, 8), 43);
        due("key(0, 9)", y.key(0, 9), 57);
        due("key(0, 10)", y.key(0, 10), 56);
        due("key(1, 11)", y.key(1, 11), 98);
        edge(9, "zeros of the year stand in the key");
        Keys z = Checks.loaded("a:1000:t;b:2005:t");
        due("keys", Checks.keys(z), "a00 b05");
        z.setStyle(1);
        due("keys", Checks.keys(z), "a1000 b2005");
        edge(9, "the last of sixteen works has the letter p");
        due("the last ones", lastSigns(alike(16), 15, 4), "p -9 -9");
    }

    private void keyRefuses() {
        edge(9, "k is negative: -1 and the least number are refused");
        for (int k : NEGATIVE) {
            refused("key(0, " + k + ")", Edges::busy, ARGUMENT, x -> x.key(0, k));
            refused("key(2, " + k + ")", Edges::busy, ARGUMENT, x -> x.key(2, k));
        }
        edge(9, "there is no such work: -1, as many as there are, and what is farther");
        for (int i : outside(0, 2)) {
            refused("key(" + i + ", 0)", Edges::busy, INDEX, x -> x.key(i, 0));
        }
        refused("key(16, 0)", () -> alike(16), INDEX, x -> x.key(16, 0));
    }

    private void at() {
        edge(10, "place is 0 or more: -1 and the least number are refused");
        for (int place : NEGATIVE) {
            refused("at(" + place + ")", Edges::busy, ARGUMENT, x -> x.at(place));
            refused("at(" + place + ") of nothing", Edges::nothing, ARGUMENT, x -> x.at(place));
        }
        edge(10, "the first place is 0, the last one less than there are works");
        Keys x = Checks.loaded("c:1998:t;a:1998:t;b:1998:t");
        due("at(0)", x.at(0), 1);
        due("at(1)", x.at(1), 2);
        due("at(2)", x.at(2), 0);
        edge(10, "NONE if there are not so many: as many as there are, and more");
        due("at(3)", x.at(3), NONE);
        for (int place : from(4)) {
            due("at(" + place + ")", x.at(place), NONE);
        }
        due("at(MAX)", x.at(MAX), NONE);
        edge(10, "NONE without works");
        due("at(0)", nothing().at(0), NONE);
        edge(10, "of sixteen works the place 15 is the last one");
        due("at(15)", alike(16).at(15), 15);
        due("at(16)", alike(16).at(16), NONE);
        due("at(15) of fifteen", alike(15).at(15), NONE);
    }

    private void meaning() {
        edge(11, "NONE without works, also if the text is empty");
        due("meaning()", nothing().meaning(), NONE);
        due("meaning of a98", meaning(new Keys(), "a98"), NONE);
        edge(11, "the work whose key the text is: the first and the last one, with letters and without");
        Keys x = Checks.loaded("ab:1998:t;ab:1998:u;cd:1998:t");
        due("ab98a", meaning(x, "ab98a"), 0);
        due("ab98b", meaning(x, "ab98b"), 1);
        due("cd98", meaning(x, "cd98"), 2);
        Keys y = alike(16);
        due("a98a", meaning(y, "a98a"), 0);
        due("a98p", meaning(y, "a98p"), 15);
        edge(11, "NONE if there is none: the letter behind the last one");
        due("a98q", meaning(y, "a98q"), NONE);
        due("ab98c", meaning(x, "ab98c"), NONE);
        edge(11, "NONE if there is none: a stem whose works have letters, a letter at a stem of one work");
        due("ab98", meaning(x, "ab98"), NONE);
        due("cd98a", meaning(x, "cd98a"), NONE);
        edge(11, "the key of another style means nothing, and that of the style that is set does");
        x.setStyle(3);
        due("cd98", meaning(x, "cd98"), NONE);
        due("ct1998", meaning(x, "ct1998"), 2);
        x.setStyle(2);
        due("cd98", meaning(x, "cd98"), 2);
        edge(11, "a letter that has vanished means nothing any more");
        x.remove(1);
        due("ab98a", meaning(x, "ab98a"), NONE);
        due("ab98", meaning(x, "ab98"), 0);
    }

    private void meaningOfAlmostKeys() {
        edge(11, "a text that is only the beginning of a key, or goes on behind it, means nothing");
        Keys x = Checks.loaded("ab,c:1998:t;ab,d:1998:u");
        x.setStyle(2);
        due("ab+98a", meaning(x, "ab+98a"), 0);
        due("ab+98", meaning(x, "ab+98"), NONE);
        due("ab+98aa", meaning(x, "ab+98aa"), NONE);
        due("ab+98ab", meaning(x, "ab+98ab"), NONE);
        due("b+98a", meaning(x, "b+98a"), NONE);
        edge(11, "a text that differs from a key in one character means nothing");
        String key = "ab+98a";
        for (int n = 0; n < key.length(); n++) {
            String other = key.substring(0, n) + "?" + key.substring(n + 1);
            due(other, meaning(x, other), NONE);
        }
        edge(11, "a key with one character more before or behind it means nothing, be it a blank or the character 0");
        for (char c : new char[] {0, ' ', '+', '0', 'a', 'b', 255}) {
            due(c + key, meaning(x, c + key), NONE);
            due(key + c, meaning(x, key + c), NONE);
        }
        edge(11, "an empty text and one of 100 characters mean nothing");
        due("no text", meaning(x, ""), NONE);
        due("100 characters", meaning(x, "a".repeat(100)), NONE);
        edge(11, "works a hundred years apart are not told apart by the last two digits, but by four");
        Keys y = Checks.loaded("a:1998:t;a:2098:t");
        y.setStyle(1);
        due("a1998", meaning(y, "a1998"), 0);
        due("a2098", meaning(y, "a2098"), 1);
        due("a98", meaning(y, "a98"), NONE);
    }

    private void printedMeaning() {
        edge(12, "NONE if nothing is printed, also for a key that there is");
        due("printedMeaning()", nothing().printedMeaning(), NONE);
        Keys x = Checks.loaded("ab:1998:t;ab:1998:u;cd:1998:t");
        due("ab98a", printedMeaning(x, "ab98a"), NONE);
        edge(12, "the work to which the printed key belongs: the first and the last one");
        x.print();
        due("ab98a", printedMeaning(x, "ab98a"), 0);
        due("ab98b", printedMeaning(x, "ab98b"), 1);
        due("cd98", printedMeaning(x, "cd98"), 2);
        Keys y = alike(16);
        y.print();
        due("a98a", printedMeaning(y, "a98a"), 0);
        due("a98p", printedMeaning(y, "a98p"), 15);
        edge(12, "NONE if the text is no printed key: almost one, an empty text, 100 characters");
        for (String text : new String[] {"ab98", "ab98c", "ab98aa", "cd9", "cd98a", "CD98", " cd98", "cd98 ", "", "a".repeat(100)}) {
            due(text, printedMeaning(x, text), NONE);
        }
        edge(12, "GONE if it belongs to none any more");
        x.remove(0);
        due("ab98a", printedMeaning(x, "ab98a"), GONE);
        due("ab98b", printedMeaning(x, "ab98b"), 0);
        due("cd98", printedMeaning(x, "cd98"), 1);
        edge(12, "NONE, not GONE, for the key of a work that was added since, and removed");
        Checks.added(x, "q:1998:t");
        due("q98", printedMeaning(x, "q98"), NONE);
        x.remove(2);
        due("q98", printedMeaning(x, "q98"), NONE);
        edge(12, "NONE for a key of the list that was printed before");
        x.print();
        due("ab98a", printedMeaning(x, "ab98a"), NONE);
        due("ab98", printedMeaning(x, "ab98"), 0);
        edge(12, "of two printed keys of works with the same stem each is its own work's when the letters are others");
        Keys z = Checks.loaded("a:1998:m;a:1998:n");
        z.print();
        Checks.write(z, "a:1998:z").change(0);
        due("keys", Checks.keys(z), "a98b a98a");
        due("a98a", printedMeaning(z, "a98a"), 0);
        due("a98b", printedMeaning(z, "a98b"), 1);
    }

    private void printedCounts() {
        edge(13, "what is 0 to 2: -1 and 3 are refused, and what is farther");
        for (int what : outside(0, 2)) {
            refused("printed(" + what + ")", Edges::busy, ARGUMENT, x -> x.printed(what));
            refused("printed(" + what + ") of nothing", Edges::nothing, ARGUMENT, x -> x.printed(what));
        }
        edge(13, "all are 0 if nothing is printed, with works and without");
        due("printed", printed(nothing()), "0 0 0");
        due("printed", printed(alike(3)), "0 0 0");
        edge(13, "2: all that were printed just now are the key of the work to which they belong");
        Keys x = alike(16);
        x.print();
        due("printed", printed(x), "0 0 16");
        edge(13, "0: printed keys that are the key of another work");
        Keys y = Checks.loaded("a:1998:m;a:1998:n");
        y.print();
        Checks.added(y, "a:1998:a");
        due("printed", printed(y), "2 0 0");
        edge(13, "1: printed keys that are the key of no work, because their works have another one");
        Keys z = Checks.loaded("a:1998:t;a:1998:u");
        z.print();
        z.setYear(1, 1999);
        due("printed", printed(z), "0 2 0");
        edge(13, "2: printed keys count again when they are the key of their work again");
        z.setYear(1, 2098);
        due("printed", printed(z), "0 0 2");
        edge(13, "2: it is the text of the key that counts, also with another style");
        Keys q = Checks.loaded("abc:1998:t;ab,t:2000:t;tu:1998:t");
        q.print();
        q.setStyle(2);
        due("printed", printed(q), "0 1 2");
        q.setStyle(1);
        due("printed", printed(q), "0 3 0");
        q.print();
        due("printed", printed(q), "0 0 3");
        q.setStyle(3);
        due("keys", Checks.keys(q), "at1998 at2000 tt1998");
        due("printed", printed(q), "0 2 1");
    }

    private void printedKeysOfNone() {
        edge(13, "1: a printed key that belongs to none any more, and is the key of no work");
        Keys x = Checks.loaded("a:1998:t;b:1998:t");
        x.print();
        x.remove(0);
        due("printed", printed(x), "0 1 1");
        edge(13, "0: also if it belongs to none any more, and is the key of a work");
        Checks.added(x, "a:1998:t");
        due("printed", printed(x), "1 0 1");
        edge(13, "1: all printed keys, when all works are gone");
        x.remove(1);
        x.remove(0);
        due("printed", printed(x), "0 2 0");
        edge(13, "0: all 16 printed keys, when other works have them");
        Keys y = alike(16);
        y.print();
        for (int n = 0; n < 16; n++) {
            y.remove(0);
            y.add();
        }
        due("printed", printed(y), "16 0 0");
        due("of none", y.about(7), 16);
    }

    private void changesNothing() {
        edge(6, "looking changes nothing and is no action");
        unchanging("about(7)", Edges::busy, 1, x -> x.about(7));
        edge(7, "looking changes nothing and is no action");
        unchanging("work(2, 6)", Edges::busy, 1, x -> x.work(2, 6));
        edge(8, "looking changes nothing and is no action");
        unchanging("letter(0, 0, 8)", Edges::busy, NONE, x -> x.letter(0, 0, 8));
        edge(9, "looking changes nothing and is no action");
        unchanging("key(0, 5)", Edges::busy, NONE, x -> x.key(0, 5));
        edge(10, "looking changes nothing and is no action");
        unchanging("at(3)", Edges::busy, NONE, x -> x.at(3));
        edge(11, "looking changes nothing and is no action");
        unchanging("meaning()", () -> busyWith("smi98"), 1, x -> x.meaning());
        unchanging("meaning()", () -> busyWith("smi98 "), NONE, x -> x.meaning());
        edge(12, "looking changes nothing and is no action");
        unchanging("printedMeaning()", () -> busyWith("z05"), GONE, x -> x.printedMeaning());
        unchanging("printedMeaning()", () -> busyWith("z05 "), NONE, x -> x.printedMeaning());
        edge(13, "looking changes nothing and is no action");
        unchanging("printed(0)", Edges::busy, 1, x -> x.printed(0));
    }
}
