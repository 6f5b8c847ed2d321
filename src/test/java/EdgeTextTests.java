/** The edges that the promises 1 to 5 and the rules of texts name. */
public final class EdgeTextTests extends Edges {
    private static final int CODES = 256;

    public static void main(String[] args) {
        EdgeTextTests tests = new EdgeTextTests();
        tests.newObject();
        tests.twoObjects();
        tests.append();
        tests.appendToFullText();
        tests.clearText();
        tests.errorsInNames();
        tests.errorsInYears();
        tests.errorsInTitles();
        tests.errorsInLists();
        tests.blanks();
        tests.textsThatEndTooSoon();
        tests.everyCodeAtEveryPlace();
        tests.load();
        tests.loadMakesAllNew();
        tests.loadForgets();
        tests.loadRefuses();
        tests.end(1, 5);
    }

    private void newObject() {
        edge(1, "a new object has no works, the style 0, the order 0, no letters, no stems, nothing printed");
        Keys x = nothing();
        for (int what = 0; what <= 7; what++) {
            due("about(" + what + ")", x.about(what), 0);
        }
        due("printed", printed(x), "0 0 0");
        edge(1, "in a new object there is no first work");
        due("at(0)", x.at(0), NONE);
        due("weightiest()", x.weightiest(), NONE);
        refused("work(0, 0)", Edges::nothing, INDEX, y -> y.work(0, 0));
        refused("letter(0, 0, 0)", Edges::nothing, INDEX, y -> y.letter(0, 0, 0));
        refused("key(0, 0)", Edges::nothing, INDEX, y -> y.key(0, 0));
        refused("change(0)", Edges::nothing, INDEX, y -> y.change(0));
        refused("setYear(0, 2000)", Edges::nothing, INDEX, y -> y.setYear(0, 2000));
        refused("remove(0)", Edges::nothing, INDEX, y -> y.remove(0));
        refused("ifRemoved(0)", Edges::nothing, INDEX, y -> y.ifRemoved(0));
        refused("freeYear(0)", Edges::nothing, INDEX, y -> y.freeYear(0));
        edge(1, "in a new object the text is empty, nothing is remembered and both save slots are empty");
        due("errorPosition()", x.errorPosition(), 0);
        due("clearText()", x.clearText(), 0);
        refused("undo()", Edges::nothing, STATE, y -> y.undo());
        refused("restore(0)", Edges::nothing, STATE, y -> y.restore(0));
        refused("restore(1)", Edges::nothing, STATE, y -> y.restore(1));
    }

    private void twoObjects() {
        edge(1, "a second object is without works, whatever has been done with the first one");
        Keys first = alike(3);
        String before = Checks.picture(first);
        Keys second = nothing();
        due("works of the second", second.about(0), 0);
        due("text of the second", second.clearText(), 0);
        Checks.write(second, "q:2222:q").load();
        second.setStyle(3);
        second.print();
        second.save(1);
        second.remove(0);
        due("the first", Checks.picture(first), before);
        due("restore(1) of the first", Checks.answer(() -> first.restore(1)), "throws IllegalStateException");
    }

    private void append() {
        edge(2, "c is 0 to 255: 0 and 255 are taken");
        Keys x = nothing();
        due("append(0)", x.append(0), 1);
        due("append(255)", x.append(255), 2);
        edge(2, "c is 0 to 255: -1 and 256 are refused, and what is farther");
        for (int c : outside(0, 255)) {
            refused("append(" + c + ")", Edges::busy, ARGUMENT, y -> y.append(c));
            refused("append(" + c + ") to no text", Edges::nothing, ARGUMENT, y -> y.append(c));
        }
        refused("append(256 + 97)", Edges::busy, ARGUMENT, y -> y.append(256 + 'a'));
        refused("append(97 - 256)", Edges::busy, ARGUMENT, y -> y.append('a' - 256));
        edge(2, "the new length is returned: 1 of the first, 100 of the last");
        Keys z = nothing();
        for (int n = 1; n <= 100; n++) {
            due("append(97)", z.append('a'), n);
        }
        due("clearText()", z.clearText(), 100);
        edge(2, "an appended character is behind those that are there");
        Keys q = Checks.loaded("a:1998:t");
        Checks.write(q, "a9");
        due("meaning of a9", q.meaning(), NONE);
        q.append('8');
        due("meaning of a98", q.meaning(), 0);
        q.append(0);
        due("meaning of a98 and the character 0", q.meaning(), NONE);
    }

    private void appendToFullText() {
        edge(2, "the hundredth character is taken");
        Keys x = Checks.write(new Keys(), "a".repeat(99));
        due("append(97)", x.append('a'), 100);
        edge(2, "with 100 characters one more is refused");
        refused("append(97)", () -> busyWith("a".repeat(100)), STATE, y -> y.append('a'));
        refused("append(0)", () -> busyWith("a".repeat(100)), STATE, y -> y.append(0));
        refused("append(255)", () -> busyWith("a".repeat(100)), STATE, y -> y.append(255));
        String list = "abcdefgh:1998:abcdefgh;".repeat(4) + "a:1998:t";
        due("the list's length", list.length(), 100);
        refused("append(97) to a list of 100 characters", () -> Checks.write(new Keys(), list), STATE, y -> y.append('a'));
        edge(2, "when a full text has been emptied, there is place for 100 again");
        Keys z = Checks.write(new Keys(), "a".repeat(100));
        due("append(97)", Checks.answer(() -> z.append('a')), "throws IllegalStateException");
        z.clearText();
        for (int n = 1; n <= 100; n++) {
            due("append(98)", z.append('b'), n);
        }
        due("append(98)", Checks.answer(() -> z.append('b')), "throws IllegalStateException");
    }

    private void clearText() {
        edge(3, "the previous length is returned: 0 of no text");
        unchanging("clearText()", Edges::nothing, 0, x -> x.clearText());
        unchanging("clearText() of no text", () -> busyWith(""), 0, x -> x.clearText());
        edge(3, "the previous length is returned: 1 of one character, 100 of a full text");
        due("clearText()", Checks.write(new Keys(), "a").clearText(), 1);
        due("clearText()", Checks.write(new Keys(), "a".repeat(100)).clearText(), 100);
        edge(3, "the text is empty then");
        Keys x = Checks.write(new Keys(), "a:1998:t");
        due("clearText()", x.clearText(), 8);
        due("clearText() again", x.clearText(), 0);
        due("errorPosition()", x.errorPosition(), 0);
        due("append(97)", x.append('a'), 1);
        due("errorPosition()", x.errorPosition(), 1);
        edge(3, "all but the text stays");
        Keys y = busy();
        y.clearText();
        due("all there is", Checks.examined(y), Checks.examined(busyWith("")));
    }

    private void error(String text, int want) {
        due("errorPosition() of " + text, Checks.write(new Keys(), text).errorPosition(), want);
    }

    private void errorsInNames() {
        edge(4, "a name has one letter or more");
        error(":1998:t", 0);
        error(",a:1998:t", 0);
        error("a,,b:1998:t", 2);
        error("a,:1998:t", 2);
        edge(4, "a ninth letter of a name is not allowed, an eighth one is");
        error("abcdefgh:1998:t", NONE);
        error("abcdefghi:1998:t", 8);
        error("a,b,c,abcdefgh:1998:t", NONE);
        error("a,b,c,abcdefghi:1998:t", 14);
        error("abcdefgh,abcdefghi:1998:t", 17);
        edge(4, "a fourth comma is not allowed, a third one is");
        error("a,b,c,d:1998:t", NONE);
        error("a,b,c,d,e:1998:t", 7);
        error("a,b,c,d,", 7);
        error("abcdefgh,abcdefgh,abcdefgh,abcdefgh,a", 35);
        edge(4, "a second work may have three commas again, and no fourth");
        error("a,b,c,d:1998:t;a,b,c,d:1998:t", NONE);
        error("a,b,c,d:1998:t;a,b,c,d,e:1998:t", 22);
        edge(4, "behind names stands a colon, nothing else");
        error("a1998:t", 1);
        error("a;1998:t", 1);
        error("a;", 1);
        error("a::1998:t", 2);
    }

    private void errorsInYears() {
        edge(4, "the first digit of the year is 1 or 2");
        error("a:1000:t", NONE);
        error("a:2000:t", NONE);
        error("a:0000:t", 2);
        error("a:3000:t", 2);
        error("a:9000:t", 2);
        edge(4, "the other digits are 0 to 9");
        error("a:1000:t", NONE);
        error("a:1999:t", NONE);
        error("a:2999:t", NONE);
        error("a:1/00:t", 3);
        error("a:1:00:t", 3);
        error("a:10/0:t", 4);
        error("a:10:0:t", 4);
        error("a:100/:t", 5);
        error("a:1a00:t", 3);
        edge(4, "the year has four digits, not three and not five");
        error("a:199:t", 5);
        error("a:19981:t", 6);
        error("a::t", 2);
        error("a:b", 2);
        edge(4, "behind the year stands a colon, nothing else");
        error("a:1998t", 6);
        error("a:1998;t", 6);
        error("a:1998,t", 6);
        error("a:1998", 6);
    }

    private void errorsInTitles() {
        edge(4, "a title has one letter or more");
        error("a:1998:", 7);
        error("a:1998:;a:1998:t", 7);
        error("a:1998::", 7);
        edge(4, "a ninth letter of a title is not allowed, an eighth one is");
        error("a:1998:abcdefgh", NONE);
        error("a:1998:abcdefghi", 15);
        error("a:1998:abcdefgh;b:1998:abcdefgh", NONE);
        error("a:1998:abcdefgh;b:1998:abcdefghi", 31);
        edge(4, "a title has letters only");
        error("a:1998:t1", 8);
        error("a:1998:1", 7);
        error("a:1998:t,u", 8);
        error("a:1998:t:", 8);
        error("a:1998:t+", 8);
        edge(4, "a list may end behind any letter of a title");
        String title = "abcdefgh";
        for (int n = 1; n <= 8; n++) {
            error("a:1998:" + title.substring(0, n), NONE);
            error("a:1998:" + title.substring(0, n) + ";b,c:2000:" + title.substring(0, n), NONE);
        }
    }

    private void errorsInLists() {
        edge(4, "a list is one work or more: nothing is no list");
        error("", 0);
        error(";", 0);
        error(";a:1998:t", 0);
        edge(4, "a list is one work or more: one, two, and eleven are a list");
        error("a:1998:t", NONE);
        error("a:1998:t;a:1998:t", NONE);
        error("a:1998:t;".repeat(10) + "ab:1998:t", NONE);
        edge(4, "a semicolon stands between two works, not behind the last one");
        error("a:1998:t;", 9);
        error("a:1998:t;a:1998:t;", 18);
        error("a:1998:t;;a:1998:t", 9);
        error("a:1998:t,a:1998:t", 8);
        edge(4, "a list of 100 characters is a list");
        String list = "abcdefgh:1998:abcdefgh;".repeat(4) + "a:1998:t";
        error(list, NONE);
        edge(4, "a text of 100 characters can be wrong at its last character, or end too soon");
        error("abcdefgh:1998:abcdefgh;".repeat(4) + "a:1998::", 99);
        error("abcdefgh:1998:abcdefgh;".repeat(4) + "aa:1998:", 100);
        error("a:1998:t;".repeat(11), 99);
        error("a:1998:t;".repeat(11) + "a", 100);
        edge(4, "the error position is that of the first error");
        error("a:3998:t;b:3998:u", 2);
        error("A1?", 0);
    }

    private void blanks() {
        edge(4, "there are no blanks, wherever they stand");
        String list = "ab,c:1998:tu;d:2000:v";
        for (int n = 0; n <= list.length(); n++) {
            error(list.substring(0, n) + " " + list.substring(n), n);
        }
        error(" ", 0);
    }

    private void textsThatEndTooSoon() {
        edge(4, "if the text ends too soon, it is the length of the text");
        String list = "abcdefgh,b,c,d:1998:tu;x,yz:2000:abcdefgh";
        int titleAt = list.indexOf("tu");
        int lastTitleAt = list.lastIndexOf(":") + 1;
        for (int n = 0; n <= list.length(); n++) {
            boolean inTitle = n == titleAt + 1 || n == titleAt + 2 || n > lastTitleAt;
            error(list.substring(0, n), inTitle ? NONE : n);
        }
    }

    /** Each row: a beginning of a text, and the characters that may follow it (az for all letters, 09 for all digits). */
    private static final String[][] PLACES = {
        {"", "az"},
        {"a", "az,:"},
        {"abcdefg", "az,:"},
        {"abcdefgh", ",:"},
        {"a,", "az"},
        {"a,b", "az,:"},
        {"a,abcdefgh", ",:"},
        {"a,b,", "az"},
        {"a,b,c", "az,:"},
        {"a,b,abcdefgh", ",:"},
        {"a,b,c,", "az"},
        {"a,b,c,d", "az:"},
        {"a,b,c,abcdefg", "az:"},
        {"a,b,c,abcdefgh", ":"},
        {"a:", "12"},
        {"a,b,c,d:", "12"},
        {"a:1", "09"},
        {"a:2", "09"},
        {"a:10", "09"},
        {"a:29", "09"},
        {"a:100", "09"},
        {"a:299", "09"},
        {"a:1000", ":"},
        {"a:2999", ":"},
        {"a:1998:", "az"},
        {"a:1998:t", "az;"},
        {"a:1998:abcdefg", "az;"},
        {"a:1998:abcdefgh", ";"},
        {"a:1998:t;", "az"},
        {"a:1998:t;a", "az,:"},
        {"a,b,c,d:1998:t;a,b,c", "az,:"},
        {"a:1998:abcdefgh;a,b,c,d", "az:"},
        {"a:1998:t;abcdefgh", ",:"},
        {"a:1998:t;a:", "12"},
        {"a:1998:t;a:2", "09"},
        {"a:1998:t;a:2998", ":"},
        {"a:1998:t;a:2998:", "az"},
        {"a:1998:t;a:2998:t", "az;"},
        {"a:1998:t;a:2998:t;b", "az,:"},
    };

    private static boolean allowed(int code, String allowed) {
        boolean letter = code >= 'a' && code <= 'z' && allowed.startsWith("az");
        boolean digit = code >= '0' && code <= '9' && allowed.equals("09");
        boolean named = allowed.replace("az", "").replace("09", "").indexOf(code) >= 0;
        return letter || digit || named;
    }

    private void everyCodeAtEveryPlace() {
        edge(4, "each character from 0 to 255 is allowed where the rules have it, and nowhere else");
        for (String[] place : PLACES) {
            int length = place[0].length();
            for (int code = 0; code < CODES; code++) {
                Keys x = Checks.write(new Keys(), place[0]);
                x.append(code);
                boolean ends = code >= 'a' && code <= 'z' && place[0].matches(".*:t?(abcdefg)?");
                int want = !allowed(code, place[1]) ? length : ends ? NONE : length + 1;
                due("errorPosition() of " + place[0] + " and the code " + code, x.errorPosition(), want);
            }
        }
    }

    private void load() {
        edge(5, "the works of the text are added: one work");
        Keys x = Checks.write(new Keys(), "ab,c:1998:t");
        due("load()", x.load(), 1);
        due("work 0", Checks.told(x, 0), "ab,c:1998:t");
        edge(5, "the works of the text are added: eleven, as many as 100 characters tell");
        Keys y = Checks.write(new Keys(), "a:1998:t;".repeat(10) + "zy:2999:u");
        due("load()", y.load(), 11);
        due("work 9", Checks.told(y, 9), "a:1998:t");
        due("work 10", Checks.told(y, 10), "zy:2999:u");
        edge(5, "the works of the text are added: the longest ones");
        String longest = "abcdefgh,bcdefghi,cdefghij,defghijk:2999:efghijkl";
        Keys z = Checks.write(new Keys(), longest + ";" + longest);
        due("load()", z.load(), 2);
        due("work 0", Checks.told(z, 0), longest);
        due("work 1", Checks.told(z, 1), longest);
        edge(5, "the text is kept");
        due("errorPosition()", z.errorPosition(), NONE);
        due("load() again", z.load(), 2);
        due("clearText()", z.clearText(), 99);
    }

    private void loadMakesAllNew() {
        edge(5, "everything else is as in a new object that loads the text");
        Keys x = busyWith("c:1998:d;c:1998:e");
        x.setStyle(3);
        x.load();
        due("all there is", Checks.examined(x), Checks.examined(Checks.loaded("c:1998:d;c:1998:e")));
        edge(5, "fewer works than before are all the works there are");
        Keys y = alike(16);
        y.print();
        y.setStyle(1);
        due("load()", y.load(), 1);
        due("keys", Checks.keys(y), "a98");
        due("work(1, 0)", Checks.answer(() -> y.work(1, 0)), "throws IndexOutOfBoundsException");
        due("numbers", y.about(1) + " " + y.about(2) + " " + y.about(6) + " " + y.about(7), "0 0 0 0");
        edge(5, "there is place for 16 works again");
        Keys z = alike(16);
        z.load();
        for (int n = 1; n < 16; n++) {
            due("add()", z.add(), n);
        }
        due("add() of the seventeenth", Checks.answer(() -> z.add()), "throws IllegalStateException");
    }

    private void loadForgets() {
        edge(5, "all remembered states are forgotten, also 14 of them");
        Keys x = acted(20);
        x.load();
        due("undo()", Checks.answer(() -> x.undo()), "throws IllegalStateException");
        due("the year", x.work(0, 0), 1000);
        x.setYear(0, 1500);
        due("undo()", x.undo(), 0);
        edge(5, "both save slots are emptied");
        Keys y = acted(1);
        y.save(0);
        y.save(1);
        y.load();
        due("restore(0)", Checks.answer(() -> y.restore(0)), "throws IllegalStateException");
        due("restore(1)", Checks.answer(() -> y.restore(1)), "throws IllegalStateException");
    }

    private void loadRefuses() {
        edge(5, "a text that is not a list is refused: an empty one, and one that lacks its last character");
        refused("load() of no text", Edges::nothing, STATE, x -> x.load());
        refused("load() of no text", () -> busyWith(""), STATE, x -> x.load());
        refused("load() of a:1998:", () -> busyWith("a:1998:"), STATE, x -> x.load());
        refused("load() of a:1998:t;", () -> busyWith("a:1998:t;"), STATE, x -> x.load());
        edge(5, "a text that is not a list is refused: one that is wrong behind a whole list");
        refused("load() of a:1998:t;?", () -> busyWith("a:1998:t;?"), STATE, x -> x.load());
        refused("load() of a:1998:t;a:3", () -> busyWith("a:1998:t;a:3"), STATE, x -> x.load());
        refused("load() of eleven and a semicolon", () -> Checks.write(new Keys(), "a:1998:t;".repeat(11)), STATE,
            x -> x.load());
        edge(5, "a refused load keeps what is remembered and what is saved");
        Keys x = busyWith("?");
        due("load()", Checks.answer(() -> x.load()), "throws IllegalStateException");
        due("undo()", x.undo(), 4);
        due("restore(0)", x.restore(0), 3);
    }
}
