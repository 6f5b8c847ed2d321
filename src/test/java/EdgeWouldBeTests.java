import java.util.function.Supplier;

/** The edges that the promises 22 to 30 name: what would be, scripts, simulations, save slots. */
public final class EdgeWouldBeTests extends Edges {
    private static final long FACTOR = 6364136223846793005L;
    private static final long SUMMAND = 1442695040888963407L;

    public static void main(String[] args) {
        EdgeWouldBeTests tests = new EdgeWouldBeTests();
        tests.ifRemoved();
        tests.freeYear();
        tests.freeYearFarAway();
        tests.lettersWith();
        tests.bestStyle();
        tests.weightiest();
        tests.scriptNumbers();
        tests.scriptGroups();
        tests.removeInScripts();
        tests.styleAndOrderInScripts();
        tests.yearInScripts();
        tests.lettersInScripts();
        tests.printInScripts();
        tests.whichLetterInScripts();
        tests.otherGroups();
        tests.simulateNumbers();
        tests.simulatedRemoval();
        tests.simulatedYear();
        tests.simulatedAdding();
        tests.simulatedRounds();
        tests.save();
        tests.restore();
        tests.restoreKeeps();
        tests.slotsAndLoad();
        tests.end(22, 30);
    }

    // ---- what would be

    private void ifRemoved() {
        edge(22, "how many other works would have another key: none without the same stem");
        unchanging("ifRemoved(0) of one", () -> alike(1), 0, x -> x.ifRemoved(0));
        unchanging("ifRemoved(0) of busy", Edges::busy, 0, x -> x.ifRemoved(0));
        unchanging("ifRemoved(2) of busy", Edges::busy, 0, x -> x.ifRemoved(2));
        edge(22, "how many other works would have another key: one of two");
        unchanging("ifRemoved(0) of two", () -> alike(2), 1, x -> x.ifRemoved(0));
        unchanging("ifRemoved(1) of two", () -> alike(2), 1, x -> x.ifRemoved(1));
        edge(22, "how many other works would have another key: two, one, none of three");
        unchanging("ifRemoved(0) of three", () -> alike(3), 2, x -> x.ifRemoved(0));
        unchanging("ifRemoved(1) of three", () -> alike(3), 1, x -> x.ifRemoved(1));
        unchanging("ifRemoved(2) of three", () -> alike(3), 0, x -> x.ifRemoved(2));
        edge(22, "how many other works would have another key: fifteen, and none, of sixteen");
        unchanging("ifRemoved(0) of sixteen", () -> alike(16), 15, x -> x.ifRemoved(0));
        unchanging("ifRemoved(15) of sixteen", () -> alike(16), 0, x -> x.ifRemoved(15));
        edge(22, "there is no such work: -1, as many as there are, and what is farther");
        for (int i : outside(0, 2)) {
            refused("ifRemoved(" + i + ")", Edges::busy, INDEX, x -> x.ifRemoved(i));
        }
        refused("ifRemoved(16)", () -> alike(16), INDEX, x -> x.ifRemoved(16));
        refused("ifRemoved(0)", Edges::nothing, INDEX, x -> x.ifRemoved(0));
    }

    private static Supplier<Keys> styled(String text, int style) {
        return () -> {
            Keys x = Checks.loaded(text);
            x.setStyle(style);
            return x;
        };
    }

    private void free(String text, int style, int want) {
        unchanging("freeYear(0) of " + text + " with the style " + style, styled(text, style), want, x -> x.freeYear(0));
    }

    private void freeYear() {
        edge(23, "its own year, if no other work has its stem, also the least and the greatest");
        free("a:1998:t", 0, 1998);
        free("a:1000:t;b:1000:t", 0, 1000);
        free("a:2999:t;a:2998:t", 1, 2999);
        edge(23, "the nearest year: one less or one more");
        free("a:1998:t;a:1998:u;a:1997:t", 1, 1999);
        free("a:1998:t;a:1998:u;a:1999:t", 1, 1997);
        edge(23, "of two that are as near the earlier one");
        free("a:1998:t;a:1998:u", 0, 1997);
        free("a:1998:t;a:1998:u", 1, 1997);
        free("a:1998:t;a:1998:u;a:1997:t;a:1999:t", 1, 1996);
        free("a:1998:t;a:1998:u;a:1997:t;a:1999:t;a:1996:t", 1, 2000);
        edge(23, "the year is from 1000: behind 1000 comes none that is earlier");
        free("a:1000:t;a:1000:u", 1, 1001);
        free("a:1000:t;a:1000:u", 0, 1001);
        free("a:1001:t;a:1001:u;a:1000:t", 1, 1002);
        free("a:1001:t;a:1001:u;a:1002:t", 1, 1000);
        free("a:1001:t;a:1001:u;a:1002:t;a:1000:v", 1, 1003);
        edge(23, "the year is to 2999: behind 2999 comes none that is later");
        free("a:2999:t;a:2999:u", 1, 2998);
        free("a:2999:t;a:2999:u;a:2998:t", 1, 2997);
        free("a:2998:t;a:2998:u;a:2997:t", 1, 2999);
        free("a:2998:t;a:2998:u;a:2997:t;a:2999:v", 1, 2996);
        edge(23, "no other work has the stem: with two digits also works a hundred years apart count");
        free("a:1998:t;a:1898:u", 0, 1997);
        free("a:1998:t;a:1898:u;a:2097:t", 0, 1999);
        free("a:1998:t;a:1898:u;a:2097:t;a:1099:t", 2, 1996);
        free("a:1998:t;a:1898:u", 3, 1998);
        edge(23, "other stems do not count: another name, a +, another title");
        free("ab:1998:t;ab,c:1998:t", 0, 1997);
        free("ab:1998:t;ab,c:1998:t", 2, 1998);
        free("a:1998:t;a:1998:u", 3, 1998);
        edge(23, "the work keeps its own year");
        Keys x = Checks.loaded("a:1998:t;a:1998:u");
        x.freeYear(0);
        due("the year", x.work(0, 0), 1998);
        due("keys", Checks.keys(x), "a98a a98b");
        edge(23, "there is no such work: -1, as many as there are, and what is farther");
        for (int i : outside(0, 2)) {
            refused("freeYear(" + i + ")", Edges::busy, INDEX, y -> y.freeYear(i));
        }
        refused("freeYear(16)", () -> alike(16), INDEX, y -> y.freeYear(16));
    }

    /** Sixteen works, the first with its year, the others with years one after the other. */
    private static Keys crowded(int style, int own, int firstOther) {
        Keys x = alike(16);
        x.setStyle(style);
        x.setYear(0, own);
        for (int i = 1; i < 16; i++) {
            x.setYear(i, firstOther + i - 1);
        }
        return x;
    }

    private void freeYearFarAway() {
        edge(23, "the farthest year that fifteen others can force: fifteen later, fifteen earlier, eight in the middle");
        due("freeYear(0) of 1000 to 1014", crowded(1, 1000, 1000).freeYear(0), 1015);
        due("freeYear(0) of 2985 to 2999", crowded(1, 2999, 2985).freeYear(0), 2984);
        due("freeYear(0) of 1993 to 2007", crowded(1, 2000, 1993).freeYear(0), 1992);
        edge(23, "near the least year only later ones are left, near the greatest only earlier ones");
        due("freeYear(0) of 1007 in 1000 to 1014", crowded(1, 1007, 1000).freeYear(0), 1015);
        due("freeYear(0) of 1006 in 1001 to 1015", crowded(1, 1006, 1001).freeYear(0), 1000);
        due("freeYear(0) of 2992 in 2985 to 2999", crowded(1, 2992, 2985).freeYear(0), 2984);
        due("freeYear(0) of 2993 in 2984 to 2998", crowded(1, 2993, 2984).freeYear(0), 2999);
        edge(23, "the last of sixteen works: the only one that is free of the others");
        Keys x = crowded(1, 1500, 1000);
        due("freeYear(0)", x.freeYear(0), 1500);
        due("freeYear(15)", x.freeYear(15), 1014);
        x.setYear(0, 1014);
        due("freeYear(15)", x.freeYear(15), 1015);
        edge(23, "NONE if there is none: but fifteen others leave one, also with two digits, with every style");
        for (int style = 0; style <= 3; style++) {
            due("freeYear(0) of 1000 to 1014", crowded(style, 1000, 1000).freeYear(0), 1015);
            due("freeYear(0) of 2985 to 2999", crowded(style, 2999, 2985).freeYear(0), 2984);
            due("freeYear(0) of 1993 to 2007", crowded(style, 2000, 1993).freeYear(0), 1992);
            boolean twoDigits = style == 0 || style == 2;
            due("freeYear(0) of 1000 and 2000 to 2014", crowded(style, 1000, 2000).freeYear(0), twoDigits ? 1015 : 1000);
            due("freeYear(0) of 2999 and 1085 to 1099", crowded(style, 2999, 1085).freeYear(0), twoDigits ? 2984 : 2999);
            due("freeYear(0) of 1500 and 1592 to 1606", crowded(style, 1500, 1592).freeYear(0), twoDigits ? 1507 : 1500);
        }
    }

    private void lettersWith() {
        String text = "smith,a:1998:a;smi:1998:b;smith,b:1898:c;sa:1998:b;sb:1998:d";
        edge(24, "style is 0 to 3: all are taken, whatever style is set");
        int[] wants = {3, 3, 2, 2};
        for (int style = 0; style <= 3; style++) {
            int asked = style;
            unchanging("lettersWith(" + style + ")", styled(text, 0), wants[style], x -> x.lettersWith(asked));
            unchanging("lettersWith(" + style + ")", styled(text, 3), wants[style], x -> x.lettersWith(asked));
        }
        edge(24, "style is 0 to 3: -1 and 4 are refused, and what is farther");
        for (int style : outside(0, 3)) {
            refused("lettersWith(" + style + ")", Edges::busy, ARGUMENT, x -> x.lettersWith(style));
            refused("lettersWith(" + style + ") of nothing", Edges::nothing, ARGUMENT, x -> x.lettersWith(style));
        }
        edge(24, "none without works, none of one, all of sixteen that are alike");
        for (int style = 0; style <= 3; style++) {
            int asked = style;
            unchanging("lettersWith(" + style + ")", Edges::nothing, 0, x -> x.lettersWith(asked));
            unchanging("lettersWith(" + style + ")", () -> alike(1), 0, x -> x.lettersWith(asked));
            unchanging("lettersWith(" + style + ")", () -> alike(16), 16, x -> x.lettersWith(asked));
        }
    }

    private void best(String text, int want) {
        unchanging("bestStyle() of " + text, () -> Checks.loaded(text), want, x -> x.bestStyle());
        unchanging("bestStyle() of " + text, styled(text, 3), want, x -> x.bestStyle());
    }

    private void bestStyle() {
        edge(25, "without works all are as good, so it is the smallest number");
        unchanging("bestStyle()", Edges::nothing, 0, x -> x.bestStyle());
        edge(25, "the fewest works with a letter decide, also if the keys are longer: each style can be the best");
        best("abc:1998:t;abd:1998:t", 0);
        best("a:1998:t;a:1898:t", 1);
        best("ab,b,c,d:1998:t;ab:1998:t", 2);
        best("abcd:1998:t;abcd:1998:u", 3);
        best("smith:1998:a;smi:1898:b", 1);
        best("smithson:1998:a;smi:1998:a", 2);
        edge(25, "among several with as few letters it is the one with the shortest longest key");
        best("abcdefgh:1998:t;abcdefgi:1898:t", 1);
        best("abcd,e,f:1998:t;abcd:1898:t", 3);
        best("ab,c,d:1998:t;b,c,d:1998:u;ac,c,e:1898:t", 0);
        edge(25, "a letter counts in the longest key");
        best("abcdef:1998:t;abcdef:1998:t", 0);
        best("abc,d,e:1998:t;abc,d,e:1998:t", 0);
        best("ab,c:1998:t;ab,c:1998:t", 0);
        edge(25, "among several with as few letters and as long a longest key it is the smallest number");
        best("a:1998:t", 0);
        best("abc:1998:t", 0);
        best("a:1998:a;a:1998:a", 0);
        best("abcd,e:1898:t;abcd,f:1998:t", 1);
        edge(25, "sixteen works that are alike");
        unchanging("bestStyle()", () -> alike(16), 0, x -> x.bestStyle());
    }

    private void weightiest() {
        edge(26, "NONE without works");
        unchanging("weightiest()", Edges::nothing, NONE, x -> x.weightiest());
        edge(26, "the only work, on which no key hangs");
        unchanging("weightiest()", () -> alike(1), 0, x -> x.weightiest());
        edge(26, "among several on which no key hangs the smallest number");
        unchanging("weightiest()", Edges::busy, 0, x -> x.weightiest());
        edge(26, "among several on which as many keys hang the smallest number");
        unchanging("weightiest()", () -> alike(2), 0, x -> x.weightiest());
        unchanging("weightiest()", () -> Checks.loaded("q:2000:x;b:2000:x;b:2000:y;c:1998:a;c:1998:a"), 1,
            x -> x.weightiest());
        edge(26, "the one with the greatest ifRemoved: the last work, or one in the middle");
        unchanging("weightiest()", () -> Checks.loaded("a:1998:v;a:1998:u;a:1998:t"), 2, x -> x.weightiest());
        unchanging("weightiest()", () -> Checks.loaded("b:1998:t;b:1998:t;a:1998:u;a:1998:t;a:1998:v"), 3,
            x -> x.weightiest());
        edge(26, "sixteen works");
        unchanging("weightiest()", () -> alike(16), 0, x -> x.weightiest());
        Keys x = Checks.write(alike(16), "a:1998:s");
        x.change(15);
        due("weightiest()", x.weightiest(), 15);
        edge(26, "when all works are gone, NONE again");
        Keys y = alike(1);
        y.remove(0);
        due("weightiest()", y.weightiest(), NONE);
    }

    // ---- scripts

    /** Three works: two with a letter (1 and 0), one without; z98 is printed and belongs to none any more. */
    private static Keys scripted() {
        Keys x = Checks.loaded("a:1998:b;a:1998:a;q:1000:x;z:1998:t");
        x.print();
        x.remove(3);
        return x;
    }

    private void script(int n, long script, int want) {
        unchanging("runScript(" + n + ", " + script + ")", EdgeWouldBeTests::scripted, want, x -> x.runScript(n, script));
    }

    private void succeed(long... groups) {
        for (long group : groups) {
            script(1, group, NONE);
        }
    }

    private void fail(long... groups) {
        for (long group : groups) {
            script(1, group, 0);
        }
    }

    private void wrongScript(int n, long script) {
        refused("runScript(" + n + ", " + script + ")", EdgeWouldBeTests::scripted, ARGUMENT, x -> x.runScript(n, script));
    }

    private void scriptNumbers() {
        edge(27, "n is 1 to 4: both are taken");
        script(1, 7000L, NONE);
        script(2, 70007000L, NONE);
        script(3, 700070007000L, NONE);
        script(4, 7000700070007000L, NONE);
        edge(27, "n is 1 to 4: 0 and 5 are refused, and what is farther");
        for (int n : outside(1, 4)) {
            wrongScript(n, 7000);
            wrongScript(n, 0);
        }
        edge(27, "script is 0 or more: 0 is taken, -1 and the least number are refused");
        for (int n = 1; n <= 4; n++) {
            script(n, 0, 0);
            wrongScript(n, -1);
            wrongScript(n, -7000);
            wrongScript(n, Long.MIN_VALUE);
        }
        edge(27, "script has at most 4 * n digits: the greatest number is taken, one more is refused");
        long limit = 1;
        for (int n = 1; n <= 4; n++) {
            limit *= 10000;
            script(n, limit - 1, 0);
            wrongScript(n, limit);
            wrongScript(n, Long.MAX_VALUE);
        }
        wrongScript(1, 70007000L);
        wrongScript(1, (1L << 32) + 7000);
        wrongScript(2, (1L << 32) + 70007000L);
        wrongScript(3, 7000700070007000L);
    }

    private void scriptGroups() {
        edge(27, "the first command is the highest group, with zeros before it if it has fewer digits");
        script(2, 7000L, 0);
        script(2, 70000000L, 1);
        script(4, 700070007000L, 0);
        script(2, 6002L * 10000 + 6003, 1);
        script(2, 6003L * 10000 + 6002, 0);
        edge(27, "the index of the first command that fails: each from 0 to 3");
        script(4, 7001700070007000L, 0);
        script(4, 7000700170007000L, 1);
        script(4, 7000700070017000L, 2);
        script(4, 7000700070007001L, 3);
        script(4, 7001700170017001L, 0);
        script(4, 7000700170007001L, 1);
        edge(27, "NONE if all succeed: one command and four");
        script(1, 2003L, NONE);
        script(4, 1000200330019000L, NONE);
        edge(27, "a command sees what those before it have done to the copy");
        script(2, 10025002L, 1);
        script(2, 10009000L, NONE);
        script(2, 20036002L, 1);
        script(4, 1000100010006000L, NONE);
        script(4, 1000100010001000L, 3);
        edge(27, "the copy is of the state that is, also behind another script");
        Keys x = scripted();
        due("runScript(3, all works removed)", x.runScript(3, 100010001000L), NONE);
        due("runScript(1, 1002)", x.runScript(1, 1002), NONE);
        due("works", x.about(0), 3);
        edge(27, "works without letters, and none at all");
        refused("undo()", () -> {
            Keys y = Checks.loaded("a:1998:t");
            y.runScript(4, 1000200330017000L);
            return y;
        }, STATE, y -> y.undo());
        unchanging("runScript(1, 1000)", Edges::nothing, 0, y -> y.runScript(1, 1000));
        unchanging("runScript(4, 7000600080002003)", Edges::nothing, NONE, y -> y.runScript(4, 7000600080002003L));
    }

    private void removeInScripts() {
        edge(27, "1 0 i i: the first and the last work are removed, one that does not exist fails");
        succeed(1000, 1002);
        fail(1003, 1010, 1099);
        edge(27, "1 0 i i: fails with another digit where a 0 is written");
        fail(1100, 1900, 1102);
        edge(27, "1 0 i i: ii is a decimal number, 15 is the last of sixteen works");
        unchanging("runScript(1, 1015)", () -> alike(16), NONE, x -> x.runScript(1, 1015));
        unchanging("runScript(1, 1016)", () -> alike(16), 0, x -> x.runScript(1, 1016));
        unchanging("runScript(2, 1015 1015)", () -> alike(16), 1, x -> x.runScript(2, 10151015L));
        unchanging("runScript(1, 1015)", () -> alike(15), 0, x -> x.runScript(1, 1015));
    }

    private void styleAndOrderInScripts() {
        edge(27, "2 0 0 s: the styles 0 to 3 succeed, 4 to 9 fail");
        succeed(2000, 2001, 2002, 2003);
        fail(2004, 2005, 2009);
        edge(27, "2 0 0 s: fails with another digit where a 0 is written");
        fail(2010, 2100, 2103, 2901, 2090);
        edge(27, "2 0 0 s: the style is set");
        script(2, 2003L * 10000 + 6001, 1);
        script(3, 200320006002L, NONE);
        edge(27, "3 0 0 o: the orders 0 and 1 succeed, 2 to 9 fail");
        succeed(3000, 3001);
        fail(3002, 3003, 3009);
        edge(27, "3 0 0 o: fails with another digit where a 0 is written");
        fail(3010, 3100, 3101, 3901, 3090);
        edge(27, "3 0 0 o: the order is set");
        unchanging("runScript(2, 3001 9002)", () -> Checks.loaded("abc:2098:t;abcd:1998:t"), NONE,
            x -> x.runScript(2, 30019002L));
        unchanging("runScript(2, 3000 9002)", () -> Checks.loaded("abc:2098:t;abcd:1998:t"), 1,
            x -> x.runScript(2, 30009002L));
    }

    private void year(int year, int y, int want) {
        unchanging("runScript(1, 400" + y + ") of the year " + year, () -> Checks.loaded("a:" + year + ":t"), want,
            x -> x.runScript(1, 4000 + y));
    }

    private void yearInScripts() {
        edge(27, "4 i i y: its year + y - 5: to 1000 it succeeds, to 999 it fails");
        year(1005, 0, NONE);
        year(1004, 0, 0);
        year(1000, 5, NONE);
        year(1000, 4, 0);
        year(1000, 0, 0);
        year(1001, 4, NONE);
        year(1000, 9, NONE);
        edge(27, "4 i i y: its year + y - 5: to 2999 it succeeds, to 3000 it fails");
        year(2995, 9, NONE);
        year(2996, 9, 0);
        year(2999, 5, NONE);
        year(2999, 6, 0);
        year(2999, 9, 0);
        year(2998, 6, NONE);
        year(2999, 0, NONE);
        edge(27, "4 i i y: five years earlier with 0, the same with 5, four later with 9");
        for (int y = 0; y <= 9; y++) {
            int moved = 1998 + y - 5;
            long script = (4000L + y) * 10000 + 6002;
            unchanging("runScript(2, " + script + ")", () -> Checks.loaded("a:1998:t;a:" + moved + ":t"), NONE,
                x -> x.runScript(2, script));
            unchanging("runScript(2, " + script + ")", () -> Checks.loaded("a:1998:t;a:" + (moved - 1) + ":t"), 1,
                x -> x.runScript(2, script));
        }
        edge(27, "4 i i y: the last work succeeds, one that does not exist fails");
        succeed(4005, 4025, 4029);
        fail(4035, 4105, 4995, 4024);
        unchanging("runScript(1, 4155)", () -> alike(16), NONE, x -> x.runScript(1, 4155));
        unchanging("runScript(1, 4165)", () -> alike(16), 0, x -> x.runScript(1, 4165));
        edge(27, "4 i i y: ii are the two digits behind the 4, so the last of sixteen works moves");
        unchanging("runScript(2, 4156 9150)", () -> alike(16), NONE, x -> x.runScript(2, 41569150L));
        unchanging("runScript(2, 4156 9140)", () -> alike(16), 1, x -> x.runScript(2, 41569140L));
    }

    private void lettersInScripts() {
        edge(27, "5 0 i i: a work with a letter succeeds, one without and one that does not exist fail");
        succeed(5000, 5001);
        fail(5002, 5003, 5010, 5099);
        edge(27, "5 0 i i: fails with another digit where a 0 is written");
        fail(5100, 5101, 5900);
        edge(27, "5 0 i i: the last of sixteen works");
        unchanging("runScript(1, 5015)", () -> alike(16), NONE, x -> x.runScript(1, 5015));
        unchanging("runScript(1, 5016)", () -> alike(16), 0, x -> x.runScript(1, 5016));
        edge(27, "6 0 x x: as many as there are letters succeed, one more fails");
        succeed(6000, 6001, 6002);
        fail(6003, 6012, 6099);
        unchanging("runScript(1, 6000)", Edges::nothing, NONE, x -> x.runScript(1, 6000));
        unchanging("runScript(1, 6001)", Edges::nothing, 0, x -> x.runScript(1, 6001));
        unchanging("runScript(1, 6016)", () -> alike(16), NONE, x -> x.runScript(1, 6016));
        unchanging("runScript(1, 6017)", () -> alike(16), 0, x -> x.runScript(1, 6017));
        edge(27, "6 0 x x: fails with another digit where a 0 is written");
        fail(6100, 6101, 6900);
    }

    private void printInScripts() {
        edge(27, "7 0 0 0: succeeds, also without works");
        succeed(7000);
        unchanging("runScript(1, 7000)", Edges::nothing, NONE, x -> x.runScript(1, 7000));
        edge(27, "7 0 0 0: fails with another digit where a 0 is written");
        fail(7001, 7009, 7010, 7100, 7999);
        edge(27, "8 0 x x: printed(0) at most xx: 0 of none, and as many as there are");
        succeed(8000, 8001, 8099);
        unchanging("runScript(1, 8000)", Edges::busy, 0, x -> x.runScript(1, 8000));
        unchanging("runScript(1, 8001)", Edges::busy, NONE, x -> x.runScript(1, 8001));
        unchanging("runScript(1, 8000)", Edges::nothing, NONE, x -> x.runScript(1, 8000));
        edge(27, "8 0 x x: printed(0) counts what the script has printed and removed");
        Supplier<Keys> sixteen = () -> alike(16);
        unchanging("runScript(3, 7000 1000 8014)", sixteen, 2, x -> x.runScript(3, 700010008014L));
        unchanging("runScript(3, 7000 1000 8015)", sixteen, NONE, x -> x.runScript(3, 700010008015L));
        unchanging("runScript(4, 7000 1000 7000 8000)", sixteen, NONE, x -> x.runScript(4, 7000100070008000L));
        edge(27, "8 0 x x: fails with another digit where a 0 is written");
        fail(8100, 8101, 8999);
    }

    private void whichLetterInScripts() {
        edge(27, "9 i i n: succeeds with the letter that the work has: 0 for none, 1 for a, 2 for b");
        succeed(9002, 9011, 9020);
        edge(27, "9 i i n: fails with any other letter");
        fail(9000, 9001, 9003, 9009, 9010, 9012, 9021, 9029);
        edge(27, "9 i i n: a work that does not exist fails, also with 0");
        fail(9030, 9031, 9100, 9990, 9999);
        edge(27, "9 i i n: 9 is the greatest letter that can be told: the tenth is not told by 0");
        unchanging("runScript(1, 9089)", () -> alike(16), NONE, x -> x.runScript(1, 9089));
        for (int n = 0; n <= 9; n++) {
            int told = n;
            unchanging("runScript(1, 909" + n + ")", () -> alike(16), 0, x -> x.runScript(1, 9090 + told));
        }
        edge(27, "9 i i n: ii are the two digits behind the 9: the last of fifteen others, that has no letter");
        Keys x = Checks.write(alike(16), "b:1998:t");
        x.change(15);
        due("runScript(1, 9150)", x.runScript(1, 9150), NONE);
        due("runScript(1, 9151)", x.runScript(1, 9151), 0);
        due("runScript(1, 9160)", x.runScript(1, 9160), 0);
    }

    private void otherGroups() {
        edge(27, "any other group fails: those that begin with 0");
        fail(0, 1, 9, 10, 100, 999);
        edge(27, "any other group fails: each of the 10000 groups succeeds only where the commands are written");
        Keys x = scripted();
        int asked = 0;
        for (int group = 0; group < 10000; group++) {
            if (asked == 400) {
                x = scripted();
                asked = 0;
            }
            due("runScript(1, " + group + ")", x.runScript(1, group), succeedsByTheDocument(group) ? NONE : 0);
            asked++;
        }
    }

    /** For the works of scripted(): of 1998 with b, of 1998 with a, of 1000 without a letter; printed(0) is 0. */
    private static boolean succeedsByTheDocument(int group) {
        String digits = Integer.toString(10000 + group).substring(1);
        return digits.matches("100[0-2]|200[0-3]|300[01]|40[01][0-9]|402[5-9]|500[01]|600[0-2]|7000|80[0-9][0-9]"
            + "|9002|9011|9020");
    }

    // ---- simulations

    /** The seed with which the first round computes r. */
    private static long seedOf(int r) {
        long inverse = FACTOR;
        for (int n = 0; n < 6; n++) {
            inverse *= 2 - FACTOR * inverse;
        }
        return (((long) r << 33) - SUMMAND) * inverse;
    }

    private void oneRound(int r, Supplier<Keys> maker, int want) {
        unchanging("simulate with r = " + r, maker, want, x -> x.simulate(seedOf(r), 1));
    }

    private void simulateNumbers() {
        edge(28, "m is 1 to 99: both are taken");
        unchanging("simulate(0, 1)", Edges::nothing, 0, x -> x.simulate(seedOf(0), 1));
        unchanging("simulate(-1, 99)", () -> Checks.loaded("a:2000:b;a:1998:b"), 1511, x -> x.simulate(-1, 99));
        edge(28, "m is 1 to 99: 0 and 100 are refused, and what is farther");
        for (int m : outside(1, 99)) {
            refused("simulate(1, " + m + ")", Edges::busy, ARGUMENT, x -> x.simulate(1, m));
            refused("simulate(0, " + m + ") of nothing", Edges::nothing, ARGUMENT, x -> x.simulate(0, m));
        }
        edge(28, "seed is any long: 0, 1, -1, the least and the greatest");
        long[] seeds = {0, 1, -1, Long.MIN_VALUE, Long.MAX_VALUE};
        for (long seed : seeds) {
            for (int m : new int[] {1, 2, 50, 99}) {
                Model model = new Model();
                due("simulate(" + seed + ", " + m + ")", new Keys().simulate(seed, m), model.simulate(seed, m));
            }
        }
        edge(28, "the greatest r, and those of each kind next to it");
        oneRound(MAX, Edges::nothing, 100);
        oneRound(MAX - 1, Edges::nothing, 100);
        oneRound(MAX - 2, Edges::nothing, 0);
        oneRound(MAX - 3, Edges::nothing, 0);
    }

    private void simulatedRemoval() {
        Supplier<Keys> three = () -> Checks.loaded("a:1998:b;a:1998:a;q:2000:x");
        edge(28, "r % 4 is 0: without works nothing is removed");
        oneRound(0, Edges::nothing, 0);
        oneRound(4, Edges::nothing, 0);
        edge(28, "r % 4 is 0: the only work is removed");
        oneRound(0, () -> alike(1), 0);
        oneRound(4, () -> alike(1), 0);
        edge(28, "r % 4 is 0: the work r / 4 % N is removed, from the first to the last, and the first again");
        oneRound(0, three, 200);
        oneRound(4, three, 200);
        oneRound(8, three, 202);
        oneRound(12, three, 200);
        oneRound(20, three, 202);
        edge(28, "r % 4 is 0: one of sixteen works is removed");
        oneRound(0, () -> alike(16), 1515);
        oneRound(60, () -> alike(16), 1515);
        oneRound(64, () -> alike(2), 100);
    }

    private void yearOfOne(int r, int year) {
        Supplier<Keys> met = () -> Checks.loaded("a:1000:t;a:" + year + ":t");
        Supplier<Keys> missed = () -> Checks.loaded("a:1000:t;a:" + (year + 1) + ":t");
        unchanging("simulate with r = " + r + " and " + year, met, 202, x -> x.simulate(seedOf(r), 1));
        unchanging("simulate with r = " + r + " and not " + year, missed, 200, x -> x.simulate(seedOf(r), 1));
    }

    private void simulatedYear() {
        edge(28, "r % 4 is 1: without works no year becomes another");
        oneRound(1, Edges::nothing, 0);
        oneRound(5, Edges::nothing, 0);
        edge(28, "r % 4 is 1: the year becomes 1990 + r / 64 % 4: 1990 to 1993, and 1990 again");
        yearOfOne(1, 1990);
        yearOfOne(57, 1990);
        yearOfOne(65, 1991);
        yearOfOne(129, 1992);
        yearOfOne(193, 1993);
        yearOfOne(249, 1993);
        yearOfOne(257, 1990);
        edge(28, "r % 4 is 1: it is the work r / 4 % N, from the first to the last, and the first again");
        Supplier<Keys> three = () -> Checks.loaded("a:1990:t;b:1990:t;b:2000:t");
        oneRound(1, three, 300);
        oneRound(5, three, 300);
        oneRound(9, three, 302);
        oneRound(13, three, 300);
        oneRound(21, three, 302);
        edge(28, "r % 4 is 1: one of sixteen works gets another year");
        oneRound(1, () -> alike(16), 1615);
        oneRound(61, () -> alike(16), 1615);
    }

    /** The round adds this work: it shares the stem of works that have all that it has, and of no other ones. */
    private void adds(int r, char author, int year, char title) {
        unchanging("simulate with r = " + r, styled(author + ":" + year + ":" + title, 3), 202,
            x -> x.simulate(seedOf(r), 1));
        unchanging("simulate with r = " + r, styled(author + ":" + year + ":d", 3), 200, x -> x.simulate(seedOf(r), 1));
        unchanging("simulate with r = " + r, styled(author + ":" + (year + 3) + ":" + title, 3), 200,
            x -> x.simulate(seedOf(r), 1));
        unchanging("simulate with r = " + r + ", whole names", styled(author + ":" + year + ":d", 2), 202,
            x -> x.simulate(seedOf(r), 1));
        unchanging("simulate with r = " + r + ", another name", styled(author + "a:" + year + ":d", 2), 200,
            x -> x.simulate(seedOf(r), 1));
        unchanging("simulate with r = " + r + " and two authors", styled(author + ",a:" + year + ":" + title, 1), 200,
            x -> x.simulate(seedOf(r), 1));
    }

    private void simulatedAdding() {
        edge(28, "r % 4 is 2 or 3: a work is added, also if there is none");
        oneRound(2, Edges::nothing, 100);
        oneRound(3, Edges::nothing, 100);
        adds(2, 'a', 1990, 'a');
        adds(3, 'a', 1990, 'a');
        edge(28, "its author is the letter number r / 4 % 3 of a, b and c: each, and a again");
        adds(6, 'b', 1990, 'a');
        adds(11, 'c', 1990, 'a');
        adds(14, 'a', 1990, 'a');
        edge(28, "its year is 1990 + r / 16 % 3: 1990 to 1992, and 1990 again");
        adds(15, 'a', 1990, 'a');
        adds(18, 'b', 1991, 'a');
        adds(34, 'c', 1992, 'a');
        adds(50, 'a', 1990, 'a');
        edge(28, "its title is the letter number r / 64 % 3 of a, b and c: each, and a again");
        adds(63, 'a', 1990, 'a');
        adds(66, 'b', 1991, 'b');
        adds(130, 'c', 1992, 'c');
        adds(194, 'a', 1990, 'a');
        edge(28, "with 15 works a sixteenth is added, with 16 none");
        oneRound(2, () -> alike(14), 1514);
        oneRound(2, () -> alike(15), 1615);
        oneRound(2, () -> alike(16), 1616);
        oneRound(3, () -> alike(16), 1616);
    }

    private void simulatedRounds() {
        edge(28, "each round first replaces x: the rounds behind the first one go on from it");
        Keys x = Checks.loaded("a:1990:a;b:1991:x;a:1990:b");
        for (int m = 1; m <= 99; m++) {
            Model model = new Model();
            for (char c : "a:1990:a;b:1991:x;a:1990:b".toCharArray()) {
                model.append(c);
            }
            model.load();
            due("simulate(7, " + m + ")", x.simulate(7, m), model.simulate(7, m));
        }
        edge(28, "a simulation does not go on from the one before");
        Keys y = busy();
        int first = y.simulate(5, 99);
        due("simulate(5, 99) again", y.simulate(5, 99), first);
        edge(28, "it is on a copy: nothing is changed, and it is no action");
        unchanging("simulate(-1, 99)", () -> Checks.loaded("a:2000:b;a:1998:b"), 1511, z -> z.simulate(-1, 99));
        edge(28, "100 * works and letters: with the style that is set");
        due("simulate with r = 2", styled("a:1990:z", 0).get().simulate(seedOf(2), 1), 202);
        due("simulate with r = 2", styled("a:1990:z", 3).get().simulate(seedOf(2), 1), 200);
    }

    // ---- save slots

    private void save() {
        edge(29, "slot is 0 or 1: both are taken, and each has its own state");
        Keys x = Checks.loaded("a:1998:t");
        due("save(0)", x.save(0), 1);
        x.setYear(0, 2000);
        due("save(1)", x.save(1), 1);
        x.restore(0);
        due("the year from slot 0", x.work(0, 0), 1998);
        x.restore(1);
        due("the year from slot 1", x.work(0, 0), 2000);
        edge(29, "slot is 0 or 1: -1 and 2 are refused, and what is farther");
        for (int slot : outside(0, 1)) {
            refused("save(" + slot + ")", Edges::busy, INDEX, y -> y.save(slot));
            refused("save(" + slot + ") of nothing", Edges::nothing, INDEX, y -> y.save(slot));
        }
        edge(29, "the number of works is returned: 0, 1 and 16");
        due("save(0)", nothing().save(0), 0);
        due("save(1)", alike(1).save(1), 1);
        due("save(1)", alike(16).save(1), 16);
        edge(29, "what was saved before in the slot is replaced, also by nothing");
        Keys y = alike(3);
        y.save(1);
        y.remove(0);
        y.save(1);
        due("restore(1)", y.restore(1), 2);
        y.remove(0);
        y.remove(0);
        due("save(1)", y.save(1), 0);
        y.add();
        due("restore(1)", y.restore(1), 0);
        edge(29, "it is no action, and the state stays");
        Keys z = busy();
        String before = Checks.picture(z);
        z.save(1);
        due("all that is seen", Checks.picture(z), before);
        due("undo()", z.undo(), 4);
        edge(29, "what is done later does not reach the slot");
        Keys q = busy();
        before = Checks.picture(q);
        q.save(1);
        q.setStyle(3);
        q.setOrder(0);
        q.remove(0);
        q.setYear(0, 2222);
        q.change(1);
        q.print();
        q.restore(1);
        due("all that is seen behind restore", Checks.picture(q), before);
    }

    private void restore() {
        edge(30, "slot is 0 or 1: -1 and 2 are refused, and what is farther");
        for (int slot : outside(0, 1)) {
            refused("restore(" + slot + ")", Edges::busy, INDEX, x -> x.restore(slot));
            refused("restore(" + slot + ") of nothing", Edges::nothing, INDEX, x -> x.restore(slot));
        }
        edge(30, "nothing has been saved in it: in a new object, and when only the other one has something");
        refused("restore(0)", Edges::nothing, STATE, x -> x.restore(0));
        refused("restore(1)", Edges::nothing, STATE, x -> x.restore(1));
        refused("restore(1)", () -> savedOnlyIn(0), STATE, x -> x.restore(1));
        refused("restore(0)", () -> savedOnlyIn(1), STATE, x -> x.restore(0));
        Keys x = Checks.loaded("a:1998:t");
        x.save(1);
        due("restore(0)", Checks.answer(() -> x.restore(0)), "throws IllegalStateException");
        due("restore(1)", x.restore(1), 1);
        edge(30, "the number of works then is returned: 0, 1 and 16");
        Keys y = nothing();
        y.save(0);
        Checks.added(y, "a:1998:t");
        y.save(1);
        due("restore(0)", y.restore(0), 0);
        due("works", y.about(0), 0);
        due("restore(1)", y.restore(1), 1);
        due("works", y.about(0), 1);
        Keys z = alike(16);
        z.remove(0);
        due("restore(0)", z.restore(0), 16);
        due("add()", Checks.answer(() -> z.add()), "throws IllegalStateException");
        edge(30, "all remembered states are forgotten: one, and fourteen");
        Keys q = acted(20);
        q.save(0);
        due("restore(0)", q.restore(0), 1);
        due("undo()", Checks.answer(() -> q.undo()), "throws IllegalStateException");
        q.setYear(0, 2000);
        due("undo()", q.undo(), 0);
        q.setYear(0, 2000);
        q.restore(0);
        due("undo()", Checks.answer(() -> q.undo()), "throws IllegalStateException");
        due("the year", q.work(0, 0), 1020);
        edge(30, "a refused restore forgets nothing");
        Keys r = acted(3);
        due("restore(0)", Checks.answer(() -> r.restore(0)), "throws IllegalStateException");
        due("restore(2)", Checks.answer(() -> r.restore(2)), "throws IndexOutOfBoundsException");
        due("undo()", r.undo(), 2);
        due("the year", r.work(0, 0), 1002);
    }

    private void restoreKeeps() {
        edge(30, "the save slot keeps it: it can be restored again, also when what was restored has been changed");
        Keys x = busy();
        x.restore(0);
        String before = Checks.picture(x);
        x.remove(2);
        x.setYear(0, 2222);
        x.setStyle(2);
        x.print();
        due("restore(0)", x.restore(0), 3);
        due("all that is seen", Checks.picture(x), before);
        edge(30, "works, style, order and the printed list are those that were saved");
        Keys y = busy();
        before = Checks.picture(y);
        y.save(1);
        y.restore(0);
        due("another state", Checks.picture(y).equals(before), false);
        y.restore(1);
        due("all that is seen", Checks.picture(y), before);
        edge(30, "the text stays");
        Keys z = busyWith("a:1998:t;");
        z.restore(0);
        due("errorPosition()", z.errorPosition(), 9);
        due("clearText()", z.clearText(), 9);
        edge(30, "the other slot keeps its state, too");
        Keys q = acted(1);
        q.save(0);
        q.setYear(0, 2000);
        q.save(1);
        q.restore(0);
        q.restore(1);
        due("the year", q.work(0, 0), 2000);
        q.restore(0);
        due("the year", q.work(0, 0), 1001);
    }

    private void slotsAndLoad() {
        edge(30, "nothing has been saved in it since the last load: what was saved before is gone");
        Keys x = Checks.loaded("a:1998:t");
        x.save(0);
        x.save(1);
        x.load();
        due("restore(0)", Checks.answer(() -> x.restore(0)), "throws IllegalStateException");
        due("restore(1)", Checks.answer(() -> x.restore(1)), "throws IllegalStateException");
        edge(30, "what has been saved since the last load is there, and only that");
        x.save(1);
        due("restore(0)", Checks.answer(() -> x.restore(0)), "throws IllegalStateException");
        due("restore(1)", x.restore(1), 1);
        edge(30, "a load that is refused leaves the slots as they are");
        Keys y = Checks.loaded("a:1998:t");
        y.save(0);
        y.append(';');
        due("load()", Checks.answer(() -> y.load()), "throws IllegalStateException");
        due("restore(0)", y.restore(0), 1);
        edge(30, "a slot is not emptied by restore, undo or other actions");
        Keys z = acted(2);
        z.save(0);
        z.undo();
        z.setYear(0, 2000);
        z.print();
        z.remove(0);
        due("restore(0)", z.restore(0), 1);
        due("restore(0)", z.restore(0), 1);
        due("the year", z.work(0, 0), 1002);
    }
}
