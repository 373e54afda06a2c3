/** For each promise of the document: ordinary inputs, the edges that it names, and wrong inputs. */
public final class PromisesTest {
    private static final int NONE = TagGuide.NONE;
    private static final int FULL = TagGuide.FULL;
    private static final int WAITS = TagGuide.WAITS;
    private static final String EIGHT_OPEN = "<a><b><c><d><e><f><g><h>";

    public static void main(String[] args) {
        newObject();
        write();
        defineTakesModels();
        defineRefuses();
        defineKeepsWhatItRefuses();
        modelsAllowRows();
        insert();
        insertWithoutEffect();
        erase();
        askAndInbox();
        cancel();
        work();
        answer();
        lengthAndCharacter();
        tagsOfTheText();
        elements();
        elementsClosedWithoutTag();
        depth();
        faults();
        faultOrder();
        fertile();
        offer();
        offerPlaces();
        offerInFaultyText();
        renaming();
        renamingRefused();
        form();
        formOfWhatIsNotLoose();
        formRefused();
        formed();
        Probe.end();
    }

    private static void due(String what, Object got, Object want) {
        Probe.due(what, got, want);
    }

    private static void newObject() {
        Probe p = new Probe();
        due("1: inbox", p.guide.inbox(), 0);
        due("1: length", p.guide.length(), 0);
        due("1: fertile", p.guide.fertile(), 0);
        due("1: work", p.guide.work(), NONE);
        due("1: fault", p.guide.fault(0, 0), NONE);
        due("1: document", p.elementNow(0), ". -1 0 0 0 0");
        due("1: element", p.guide.element(1, 0), NONE);
        due("1: character", p.guide.character(0), NONE);
        due("1: formed", p.guide.formed(0), NONE);
        due("1: answer 0", p.guide.answer(0), NONE);
        due("1: answer 1", p.guide.answer(1), NONE);
        due("1: offer", p.offer(0), 0);
        due("1: define of an empty draft", p.guide.define('.'), 0);
    }

    private static void write() {
        TagGuide guide = new TagGuide();
        due("2: code 31", guide.write((char) 31), false);
        due("2: code 127", guide.write((char) 127), false);
        due("2: code 0", guide.write((char) 0), false);
        due("2: code 65535", guide.write((char) 65535), false);
        due("2: what was refused isn't in the draft", guide.define('a'), 0);
        due("2: code 32", guide.write(' '), true);
        due("2: a space is no model", guide.define('a'), NONE);
        due("2: code 126", guide.write('~'), true);
        due("2: ~ is no model", guide.define('a'), NONE);
        for (int i = 0; i < 40; i++) {
            due("2: character " + i, guide.write(i == 0 ? 'a' : ','), true);
        }
        due("2: a 41st", guide.write('a'), false);
        due("2: a 42nd", guide.write('a'), false);
        due("2: the long draft", guide.define('a'), NONE);
        due("2: there is room again", guide.write('#'), true);
    }

    private static void defineTakesModels() {
        String[] good = {"", "#", "a", "h", "#a", "a,b", "a|b", "a?", "a*", "a+", "(a)", "(a)?", "(a,b)*|c+,d?",
            "((((((a))))))", "a,b,c,d,e,f,g,h,a,b", "#(a|b)*", "(a|b)+,(c|d,e)", "a,b|c,d|e", "(((a)))|(((b)))",
            "((((((a?)*)+)?)*)+)?"};
        for (String draft : good) {
            due("3: model '" + draft + "'", new Probe().define('a', draft), 0);
            due("3: model '" + draft + "' of the document", new Probe().define('.', draft), 0);
        }
        due("3: a model of 40 characters", new Probe().define('h', "((((((a*,b+)?|c)+,d?)*|e)?,f)*,g+|h,a,b)"), 0);
    }

    private static void defineRefuses() {
        String[] bad = {" ", "i", "A", "`", "a b", "ab", "##", "a#", "(#a)", "()", "(", ")", "(a", "a)", "a,", ",a", "a|", "|a",
            "a,,b", "a||b", "a|,b", "a**", "a?+", "a*?", "*", "?a", "#*", "#,a", "#|a", "(a,)", "(|a)", "(a))", "((a)",
            "a(b)", "(a)b", "(a)(b)", ".", "a.b", "a, b", "a;b", "#(", "#?"};
        for (String draft : bad) {
            due("3: no model '" + draft + "'", new Probe().define('a', draft), NONE);
        }
        for (char element : new char[] {'i', '`', 'A', ' ', '#', '-', '/', 0, 65535, (char) ('a' + 256)}) {
            due("3: no name " + (int) element, new Probe().define(element, "a"), NONE);
        }
        due("3: 11 names", new Probe().define('a', "a,b,c,d,e,f,g,h,a,b,c"), FULL);
        due("3: 11 names that are no model", new Probe().define('a', "abcdefghabc"), FULL);
        due("3: 10 names that are no model", new Probe().define('a', "abcdefghab"), NONE);
        due("3: 7 parentheses", new Probe().define('a', "(((((((a)))))))"), FULL);
        due("3: 7 parentheses side by side", new Probe().define('a', "(a),(a),(a),(a),(a),(a),(a)"), FULL);
        due("3: 6 parentheses side by side", new Probe().define('a', "(a),(a),(a),(a),(a),(a)"), 0);
        due("3: 7 parentheses alone", new Probe().define('a', "((((((("), FULL);
        due("3: 6 parentheses alone", new Probe().define('a', "(((((("), NONE);
        due("3: 7 closing parentheses", new Probe().define('a', ")))))))"), NONE);
        due("3: letters that are no names", new Probe().define('a', "ijklmnopqrst"), NONE);
        due("3: a wrong element goes before FULL", new Probe().define('i', "abcdefghabc"), NONE);
    }

    private static void defineKeepsWhatItRefuses() {
        Probe p = new Probe().models("a=", "b=a");
        due("3: fertile", Probe.names(p.guide.fertile()), "ab");
        due("3: refused", p.define('b', "c("), NONE);
        due("3: the model is the old one", Probe.names(p.guide.fertile()), "ab");
        due("3: refused by size", p.define('b', "(((((((c"), FULL);
        due("3: the model is the old one", Probe.names(p.guide.fertile()), "ab");
        due("3: refused by name", p.define('k', "c"), NONE);
        due("3: the draft is empty then", p.guide.define('c'), 0);
        due("3: c has the empty model", Probe.names(p.guide.fertile()), "abc");
        p.models("d=a,b,c,a,b,c,a,b,c,d*", "d=(((a|b)|c),a)+", "d=");
        due("3: nothing of an earlier model is left", p.text("<d><a/></d>").faultsNow(), "7@0");
        p.models("d=a,b,c,a,b,c,a,b,c,d*", "d=a", "a=b,c,d", "a=");
        due("3: nothing of an earlier model is left", p.faultsNow(), "");
        p.erase(0, 11);
        due("3: another model", p.define('a', "a"), 0);
        due("3: in place of the one it had", Probe.names(p.guide.fertile()), "c");
        due("3: and of the document", new Probe().models(".=a", ".=").faultsNow(), "");
        p.text("<c><c/></c>");
        due("3: faults by the models", p.faultsNow(), "7@0");
        due("3: define", p.define('c', "c*"), 0);
        due("3: the faults follow at once", p.faultsNow(), "");
        due("3: define is no message", p.guide.inbox(), 0);
    }

    private static void modelsAllowRows() {
        String[][] cases = {
            {"", "", "a aa"}, {"#", "", "b"}, {"a", "a", " b aa"}, {"a?", " a", "aa b"}, {"a*", " a aaa", "b ab"},
            {"a+", "a aaa", " b ab"}, {"a,b", "ab", " a b ba abb"}, {"a|b", "a b", " ab aa"},
            {"a,b|c", "ab c", "abc ac b"}, {"a|b,c", "a bc", "ac ab abc"}, {"(a|b),c", "ac bc", "abc c a"},
            {"(a,b)+", "ab abab", " a aba"}, {"(a?,b?)*", " a b ab ba bbaa", "c ac"}, {"(a*,b)?", " b ab aab", "a bb"},
            {"a?,b?,c?", " a b c ab ac bc abc", "ba ca cb aa"}, {"(a|b)*,a,(a|b)", "aa ab baab", "a b ba bba"},
            {"((a,b)|c)+,d", "abd cd abcd ccabd", "d abc acd"}, {"#a,(b|c)*", "a abc acb", " b ba"},
            {"(a+|b+)?,(a|b),a", "aa ba aaa bba", "a b aab"}, {"((a?)+)?", " a aa", "b"}, {"a+,a", "aa aaa", " a"},
            {"a?|b", " a b", "ab"}, {"b|a*", " aa b", "ab"}, {"(a,b?)*,(c|d)?", " aab abac d", "b cd abdc"},
        };
        for (String[] c : cases) {
            checkRows(c[0], c[1], true);
            checkRows(c[0], c[2], false);
        }
    }

    private static void checkRows(String model, String rows, boolean allowed) {
        for (String row : rows.split(" ")) {
            Probe p = new Probe().models(".=" + model, "a=", "b=", "c=", "d=");
            for (int i = row.length() - 1; i >= 0; i--) {
                p.text("<" + row.charAt(i) + "/>");
            }
            due("14: '" + model + "' and '" + row + "'", p.faultsNow(), allowed ? "" : "7@0");
        }
    }

    private static void insert() {
        Probe p = new Probe();
        due("4: insert", p.guide.insert(0, 'x'), true);
        due("4: it waits", p.guide.length(), 0);
        due("4: in the inbox", p.guide.inbox(), 1);
        due("4: work", p.guide.work(), 0);
        due("4: the text", p.textNow(), "x");
        p.guide.insert(1, 'z');
        p.guide.insert(1, 'y');
        p.guide.insert(0, ' ');
        p.guide.insert(4, '~');
        due("4: work", p.guide.work() + p.guide.work() + p.guide.work() + p.guide.work(), 0);
        due("4: the text", p.textNow(), " xyz~");
        for (int i = 0; i < 12; i++) {
            due("4: message " + i, p.guide.insert(-1, (char) 0), true);
        }
        due("4: a 13th", p.guide.insert(0, 'q'), false);
        due("4: inbox", p.guide.inbox(), 12);
    }

    private static void insertWithoutEffect() {
        Probe p = new Probe().text("ab");
        int[][] wrong = {{-1, 'x'}, {3, 'x'}, {Integer.MAX_VALUE, 'x'}, {Integer.MIN_VALUE, 'x'}, {0, 31}, {0, 127}, {1, 0}, {2, 65535}};
        for (int[] w : wrong) {
            due("4: it is a message", p.guide.insert(w[0], (char) w[1]), true);
            due("4: it is worked off", p.guide.work(), 0);
            due("4: nothing comes in", p.textNow(), "ab");
        }
        p.guide.insert(3, 'x');
        p.guide.insert(2, 'y');
        p.guide.work();
        p.guide.work();
        due("4: the length then counts", p.textNow(), "aby");
        Probe full = new Probe().text("x".repeat(99)).text("y");
        due("4: 100 characters", full.guide.length(), 100);
        full.text("z");
        full.guide.insert(100, 'z');
        full.guide.work();
        due("4: no 101st", full.guide.length(), 100);
        due("4: the first is as it was", (char) full.guide.character(0), 'y');
        due("4: the last is as it was", (char) full.guide.character(99), 'x');
    }

    private static void erase() {
        Probe p = new Probe().text("abcdefgh");
        due("5: erase", p.guide.erase(2, 3), true);
        due("5: it waits", p.textNow(), "abcdefgh");
        due("5: work", p.guide.work(), 0);
        due("5: the text", p.textNow(), "abfgh");
        int[][] wrong = {{0, 0}, {0, -1}, {5, 1}, {4, 2}, {0, 6}, {-1, 1}, {-1, 2}, {6, -1}, {1, Integer.MAX_VALUE},
            {Integer.MAX_VALUE, Integer.MAX_VALUE}, {Integer.MAX_VALUE, 1}, {Integer.MIN_VALUE, Integer.MIN_VALUE},
            {Integer.MIN_VALUE, Integer.MAX_VALUE}, {0, Integer.MIN_VALUE}, {5, 0}};
        for (int[] w : wrong) {
            due("5: it is a message", p.guide.erase(w[0], w[1]), true);
            due("5: it is worked off", p.guide.work(), 0);
            due("5: nothing is gone after " + w[0] + ", " + w[1], p.textNow(), "abfgh");
        }
        due("5: the last", p.erase(4, 1).textNow(), "abfg");
        due("5: the first", p.erase(0, 1).textNow(), "bfg");
        due("5: all", p.erase(0, 3).textNow(), "");
        due("5: none left", p.erase(0, 1).textNow(), "");
        for (int i = 0; i < 12; i++) {
            p.guide.erase(0, 1);
        }
        due("5: a 13th message", p.guide.erase(0, 1), false);
        due("5: inbox", p.guide.inbox(), 12);
    }

    private static void askAndInbox() {
        Probe p = new Probe();
        due("6: what -1", p.guide.ask(-1, 0, 'a'), NONE);
        due("6: what 4", p.guide.ask(4, 0, 'a'), NONE);
        due("6: what least", p.guide.ask(Integer.MIN_VALUE, 0, 'a'), NONE);
        due("10: nothing came in", p.guide.inbox(), 0);
        for (int i = 1; i <= 4; i++) {
            due("6: the numbers", p.guide.ask(i - 1, 0, 'a'), i);
            p.guide.insert(0, 'x');
            due("10: inbox", p.guide.inbox(), 2 * i);
        }
        for (int i = 5; i <= 8; i++) {
            due("6: the numbers", p.guide.ask(1, -5, (char) 0), i);
        }
        due("6: a 13th message", p.guide.ask(1, 0, 'a'), FULL);
        due("6: a wrong what goes first", p.guide.ask(9, 0, 'a'), NONE);
        due("10: 12 messages", p.guide.inbox(), 12);
        due("8: work", p.guide.work(), 1);
        due("10: 11 messages", p.guide.inbox(), 11);
        due("6: those that were refused have no number", p.guide.ask(0, 0, 'a'), 9);
    }

    private static void cancel() {
        Probe p = new Probe();
        p.guide.insert(0, 'x');
        due("7: a change has no number", p.guide.cancel(0), false);
        due("7: none", p.guide.cancel(-1), false);
        due("7: not yet", p.guide.cancel(1), false);
        p.guide.ask(1, 0, 'a');
        p.guide.insert(0, 'y');
        p.guide.ask(3, 0, 'a');
        p.guide.ask(2, 0, 'a');
        due("7: from the middle", p.guide.cancel(2), true);
        due("7: it isn't there", p.guide.cancel(2), false);
        due("7: inbox", p.guide.inbox(), 4);
        due("7: its number isn't used again", p.guide.ask(1, 0, 'a'), 4);
        due("7: the last", p.guide.cancel(4), true);
        due("7: the next number", p.guide.ask(1, 0, 'a'), 5);
        due("7: the order stays", p.guide.work(), 0);
        due("7: the order stays", p.guide.work(), 1);
        due("7: it was answered", p.guide.cancel(1), false);
        due("7: the order stays", p.guide.work(), 0);
        due("7: the order stays", p.guide.work(), 3);
        due("7: the order stays", p.guide.work(), 5);
        due("7: all are gone", p.guide.work(), NONE);
        due("7: the changes are done", p.textNow(), "yx");
        due("9: a cancelled one", p.guide.answer(2), NONE);
        due("9: one that was answered", p.guide.answer(1), 0);
    }

    private static void work() {
        Probe p = new Probe().models(".=");
        due("8: an empty inbox", p.guide.work(), NONE);
        p.guide.ask(1, 0, 'a');
        p.guide.insert(0, 'x');
        p.guide.ask(1, 0, 'a');
        p.guide.erase(0, 1);
        p.guide.ask(1, 0, 'a');
        due("8: a request", p.guide.work(), 1);
        due("8: a change", p.guide.work(), 0);
        due("8: a request", p.guide.work(), 2);
        due("8: a change", p.guide.work(), 0);
        due("8: a request", p.guide.work(), 3);
        due("8: an empty inbox", p.guide.work(), NONE);
        due("8: each by the text then", p.guide.answer(1) + " " + p.guide.answer(2) + " " + p.guide.answer(3), "0 1 0");
        p.guide.ask(1, 0, 'a');
        p.guide.insert(0, 'x');
        p.define('.', "a");
        p.guide.work();
        due("8: by the models then", p.guide.answer(4), 1);
    }

    private static void answer() {
        Probe p = new Probe();
        p.guide.ask(1, 0, 'a');
        due("9: it waits", p.guide.answer(1), WAITS);
        due("9: there was none", p.guide.answer(2), NONE);
        due("9: 0", p.guide.answer(0), NONE);
        due("9: -1", p.guide.answer(-1), NONE);
        p.guide.insert(0, '<');
        due("9: a change is no request", p.guide.answer(0), NONE);
        p.guide.work();
        due("9: answered", p.guide.answer(1), 0);
        p.guide.work();
        for (int i = 2; i <= 9; i++) {
            due("9: answered before the eighth later one", p.guide.answer(1), 0);
            p.guide.ask(1, 0, 'a');
            due("9: ask alone does not count", p.guide.answer(1), 0);
            p.guide.work();
        }
        due("9: after eight later ones", p.guide.answer(1), NONE);
        due("9: after seven later ones", p.guide.answer(2), 1);
        p.guide.ask(1, 0, 'a');
        p.guide.ask(1, 0, 'a');
        p.guide.cancel(10);
        due("9: a cancelled one does not count", p.guide.answer(2), 1);
        p.guide.insert(0, 'x');
        p.guide.work();
        due("9: eight later ones again", p.guide.answer(2), NONE);
        due("9: the newest", p.guide.answer(11), 1);
        due("9: cancelled", p.guide.answer(10), NONE);
    }

    private static void lengthAndCharacter() {
        Probe p = new Probe().text("a ~<");
        due("11: length", p.guide.length(), 4);
        due("12: the codes", p.guide.character(0) + " " + p.guide.character(1) + " " + p.guide.character(2), "97 32 126");
        due("12: behind the last", p.guide.character(4), NONE);
        due("12: -1", p.guide.character(-1), NONE);
        due("12: far", p.guide.character(Integer.MAX_VALUE), NONE);
        p.erase(3, 1);
        due("12: gone", p.guide.character(3), NONE);
        due("11: length", p.guide.length(), 3);
    }

    private static void tagsOfTheText() {
        String[] noTags = {"<", "<a", "<i>", "<A>", "< a>", "<a >", "<a/", "</", "</a", "</a >", "</i>", "<i/>", "<a//>", "<ab>", "<>",
            "</>", "<//>", "<a/ >", "</a/>"};
        for (String text : noTags) {
            Probe p = new Probe().text(text);
            due("14: no tag " + text, p.faultsNow(), "1@0");
            due("13: no element in " + text, p.guide.element(1, 0), NONE);
        }
        due("14: a bracket before a tag", new Probe().models("a=").text("<<a/>").faultsNow(), "1@0");
        due("14: a bracket in a broken tag", new Probe().models("a=").text("<a<a/>").faultsNow(), "1@0");
        due("14: a > is a character like others", new Probe().text("a>b/>").faultsNow(), "");
    }

    private static void elements() {
        Probe p = new Probe().text("x<a><b/> <c></c></a><h/>");
        due("13: document", p.elementNow(0), ". -1 0 24 2 0");
        due("13: a", p.elementNow(1), "a 0 1 20 2 1");
        due("13: b", p.elementNow(2), "b 1 4 8 0 0");
        due("13: c", p.elementNow(3), "c 1 9 16 0 1");
        due("13: h", p.elementNow(4), "h 0 20 24 0 0");
        due("13: no 5th", p.guide.element(5, 0), NONE);
        due("13: -1", p.guide.element(-1, 0), NONE);
        due("13: far", p.guide.element(Integer.MAX_VALUE, 0), NONE);
        due("13: what 6", p.guide.element(1, 6), NONE);
        due("13: what -1", p.guide.element(1, -1), NONE);
        due("13: what 6 of the document", p.guide.element(0, 6), NONE);
        p.erase(20, 4);
        due("13: the elements follow the text", p.guide.element(4, 0), NONE);
        due("13: the document follows the text", p.elementNow(0), ". -1 0 20 1 0");
        Probe many = new Probe().text("<a></a>".repeat(14));
        due("13: the 14th", many.elementNow(14), "a 0 91 98 0 1");
        Probe full = new Probe().text("<h/>".repeat(25));
        due("13: the 25th", full.elementNow(25), "h 0 96 100 0 0");
        due("13: all are children", full.guide.element(0, 4), 25);
    }

    private static void elementsClosedWithoutTag() {
        Probe p = new Probe().text("<a><b>x<c></a>y<d>z");
        due("13: a", p.elementNow(1), "a 0 0 14 1 1");
        due("13: b", p.elementNow(2), "b 1 3 10 1 0");
        due("13: c", p.elementNow(3), "c 2 7 10 0 0");
        due("13: d", p.elementNow(4), "d 0 15 19 0 0");
        due("13: no more", p.guide.element(5, 0), NONE);
        Probe same = new Probe().text("<a><a><b></a></a>");
        due("13: the latest of the name is closed", same.elementNow(2), "a 1 3 13 1 1");
        due("13: the outer one behind it", same.elementNow(1), "a 0 0 17 1 1");
        Probe ignored = new Probe().text("<a></b></a></a>");
        due("13: an end tag that is ignored", ignored.elementNow(1), "a 0 0 11 0 1");
        due("14: both ignored", ignored.faultsNow(), "5@0 3@3 3@11");
    }

    private static void depth() {
        Probe p = new Probe().text(EIGHT_OPEN + "<a/><b>x</b></h>");
        due("13: eight elements", p.guide.element(8, 0), (int) 'h');
        due("13: no ninth", p.guide.element(9, 0), NONE);
        due("13: </b> closes the one that is open", p.elementNow(2), "b 1 3 36 1 1");
        due("13: the inner ones end there", p.elementNow(8), "h 7 21 32 0 0");
        due("14: faults 2", p.faultsNow(), "4@0 5@0 5@3 4@6 5@6 4@9 5@9 4@12 5@12 4@15 5@15 4@18 5@18 4@21 5@21 2@24 2@28 3@36");
        Probe open = new Probe().text(EIGHT_OPEN);
        due("13: the outermost of eight that aren't closed", open.elementNow(1), "a 0 0 24 1 0");
        due("13: the innermost of eight that aren't closed", open.elementNow(8), "h 7 21 24 0 0");
        Probe closed = new Probe().text(EIGHT_OPEN + "</a> ");
        due("13: the outermost of eight is closed by its tag", closed.elementNow(1), "a 0 0 28 1 1");
        due("13: the innermost of eight is closed before it", closed.elementNow(8), "h 7 21 24 0 0");
        Probe seven = new Probe().text("<a>".repeat(7) + "<b/><c></c>");
        due("13: an eighth", seven.elementNow(8), "b 7 21 25 0 0");
        due("13: another eighth", seven.elementNow(9), "c 7 25 32 0 1");
    }

    private static void faults() {
        due("14: none", new Probe().text("abc").faultsNow(), "");
        due("14: 1", new Probe().text("a<b").faultsNow(), "1@1");
        due("14: 3", new Probe().text("ab</c>").faultsNow(), "3@2");
        due("14: 4", new Probe().models("a=").text(" <a>").faultsNow(), "4@1");
        due("14: 4 and 5", new Probe().text(" <a>").faultsNow(), "4@1 5@1");
        due("14: 5 of an empty tag", new Probe().text("<a/>").faultsNow(), "5@0");
        due("14: 6", new Probe().models("a=").text("<a>  x y</a>").faultsNow(), "6@5");
        due("14: 6 not by spaces", new Probe().models("a=").text("<a>   </a>").faultsNow(), "");
        due("14: 6 not if it is mixed", new Probe().models("a=#").text("<a>xy</a>").faultsNow(), "");
        due("14: 6 not if it has no model", new Probe().models("b=").text("<a>xy</a>").faultsNow(), "5@0");
        due("14: 6 by its own characters alone", new Probe().models(".=a", "a=#").text(" <a>x</a> ").faultsNow(), "");
        due("14: 6 of the document", new Probe().models(".=a", "a=#").text(" <a>x</a>y").faultsNow(), "6@9");
        due("14: 6 and 1 by a bracket", new Probe().models(".=").text(" <").faultsNow(), "1@1 6@1");
        due("14: 6 not by ignored tags", new Probe().models(".=").text("</a>").faultsNow(), "3@0");
        due("14: 7", new Probe().models("a=b", "b=").text("x<a><b/><b/></a>").faultsNow(), "7@1");
        due("14: 7 of a mixed one", new Probe().models("a=#b", "b=").text("x<a>y</a>").faultsNow(), "7@1");
        due("14: 7 of the document", new Probe().models(".=#a", "a=").text("x").faultsNow(), "7@0");
        due("14: 7 of the document without a text", new Probe().models(".=a").faultsNow(), "7@0");
        due("14: 7 twice", new Probe().models(".=b", "a=b").text("<a/>").faultsNow(), "7@0 7@0");
        due("14: 7 not by the names of grandchildren", new Probe().models(".=a", "a=b", "b=").text("<a><b/></a>").faultsNow(), "");
        due("14: no 5 of the document", new Probe().text("").faultsNow(), "");
        Probe p = new Probe().text("<");
        due("14: what 2", p.guide.fault(0, 2), NONE);
        due("14: what -1", p.guide.fault(0, -1), NONE);
        due("14: k -1", p.guide.fault(-1, 0), NONE);
        due("14: k 1", p.guide.fault(1, 0) + p.guide.fault(1, 1), -2);
        due("6: how many faults", p.answerTo(Probe.FAULTS, -7, 'x'), 1);
        due("6: 100 brackets and one more", new Probe().models(".=a").text("<".repeat(100)).answerTo(Probe.FAULTS, 0, 'a'), 102);
    }

    private static void faultOrder() {
        Probe p = new Probe().models(".=b", "a=b", "c=");
        p.text("<a>x<<b></a></e><c>");
        due("14: by place, then by kind", p.faultsNow(), "7@0 6@3 1@4 4@5 5@5 3@12 4@16");
        Probe q = new Probe().models(".=b", "a=", "b=");
        due("14: by place, then by kind", q.text("y<a>x<b>").faultsNow(), "6@0 7@0 4@1 7@1 6@4 4@5");
        due("14: 4 before 7 before later places", new Probe().models("a=b").text("<a>z</").faultsNow(), "4@0 7@0 6@3 1@4");
    }

    private static void fertile() {
        due("15: an empty model", Probe.names(new Probe().models("a=").guide.fertile()), "a");
        due("15: a mixed one", Probe.names(new Probe().models("h=#").guide.fertile()), "h");
        due("15: itself alone", Probe.names(new Probe().models("a=a").guide.fertile()), "");
        due("15: itself or nothing", Probe.names(new Probe().models("a=a?").guide.fertile()), "a");
        due("15: one another", Probe.names(new Probe().models("a=b", "b=a").guide.fertile()), "");
        due("15: one without a model", Probe.names(new Probe().models("a=b").guide.fertile()), "");
        due("15: one of two", Probe.names(new Probe().models("a=b|c", "c=").guide.fertile()), "ac");
        due("15: both of two", Probe.names(new Probe().models("a=b,c", "c=").guide.fertile()), "c");
        due("15: once or more", Probe.names(new Probe().models("a=b+", "c=b*").guide.fertile()), "c");
        Probe chain = new Probe().models("a=b", "b=c", "c=d", "d=e", "e=f", "f=g", "g=h");
        due("15: a chain without an end", Probe.names(chain.guide.fertile()), "");
        due("15: a chain of eight", Probe.names(chain.models("h=").guide.fertile()), "abcdefgh");
        due("15: the chain broken", Probe.names(chain.models("d=d").guide.fertile()), "efgh");
        due("15: the document has no bit", new Probe().models(".=").guide.fertile(), 0);
    }

    private static void offer() {
        String[] all = {".=a*,b?", "a=b|(c,d)+", "b=#", "c=", "d=e"};
        due("6: in an empty text", new Probe().models(all).offered(0), "ab");
        Probe p = new Probe().models(all).text("<a></a><b/>");
        due("6: before a", p.offered(0), "a");
        due("6: in a, c must not be offered, as d can't follow", p.offered(3), "b");
        due("6: between a and b", p.offered(7), "a");
        due("6: behind b", p.offered(11), "");
        due("6: with d fertile", p.models("d=").offered(3), "bc");
        Probe later = new Probe().models(".=a,b,c,d", "a=", "b=", "c=", "d=").text("<a/><d/>");
        due("6: more can come in behind the name", later.offered(4), "b");
        due("6: but not before it", later.offered(0) + later.offered(8), "");
        Probe dead = new Probe().models(".=a,(b|c,d),e?", "a=", "b=", "c=", "e=").text("<a/>");
        due("6: what follows must be fertile", dead.offered(4), "b");
        Probe barren = new Probe().models(".=(a|b|c)*", "a=", "c=c").text("<a/>");
        due("6: the name must be fertile", barren.offered(4), "a");
        Probe unknown = new Probe().models(".=a?,f?", "a=").text("<f/>");
        due("6: children need not be fertile", unknown.offered(0), "a");
        due("6: no model", new Probe().models("a=").text("x").offered(0), "");
        due("6: a mixed model without an expression", new Probe().models(".=#", "a=").text("x").offered(1), "");
        due("6: already wrong children", new Probe().models(".=a*", "a=", "b=").text("<b/>").offered(4), "");
        due("6: wrong children that can be made good", new Probe().models(".=a,b", "a=", "b=").text("<b/>").offered(0), "a");
        Probe back = new Probe().models(".=(a|b)*,a,(a|b)", "a=", "b=").text("<b/><b/>");
        due("6: where several ways are open", back.offered(0) + "/" + back.offered(4) + "/" + back.offered(8), "/ab/ab");
        due("6: the letter of ask counts for nothing", back.answerTo(Probe.OFFER, 4, (char) 0), 3);
    }

    private static void offerPlaces() {
        Probe p = new Probe().models(".=a*,d*", "a=b*", "b=c*", "c=", "d=").text("<a><b> </b></a> <d/>x");
        String[] want = {"a", "-", "-", "b", "-", "-", "c", "c", "-", "-", "-", "b", "-", "-", "-", "ad", "ad", "-", "-", "-", "d", "d"};
        for (int place = 0; place < want.length; place++) {
            due("6: offer at " + place, p.offered(place), want[place]);
        }
        due("6: behind the text", p.offer(22), NONE);
        due("6: -1", p.offer(-1), NONE);
        due("6: far", p.offer(Integer.MAX_VALUE), NONE);
        due("6: least", p.offer(Integer.MIN_VALUE), NONE);
        Probe empty = new Probe().models(".=a*", "a=b*", "b=").text("<a/>");
        due("6: an empty tag has no inside", empty.offered(0) + empty.offered(1) + empty.offered(3) + empty.offered(4), "a--a");
    }

    private static void offerInFaultyText() {
        Probe p = new Probe().models(".=a*", "a=b*", "b=c*", "c=").text("<a><b></a>");
        due("6: behind the inside of two, the one begun last", p.offered(6), "c");
        due("6: before the inside of a", p.offered(3), "b");
        due("6: behind all", p.offered(10), "a");
        Probe open = new Probe().models(".=a*", "a=b*", "b=").text("<a>x");
        due("6: at the end in what isn't closed", open.offered(4), "b");
        Probe ignored = new Probe().models(".=#a*", "a=").text("x</b>y");
        due("6: in an ignored tag", ignored.offered(1) + ignored.offered(2) + ignored.offered(4) + ignored.offered(5), "a--a");
        Probe bracket = new Probe().models(".=#a*", "a=").text("<a <");
        due("6: a bracket is no tag", bracket.offered(1) + bracket.offered(3), "aa");
        Probe deep = new Probe().models("h=#a*", "a=").text(EIGHT_OPEN + "<a>");
        due("6: in and behind a tag that is too deep", deep.offered(24) + deep.offered(25) + deep.offered(27), "a-a");
        Probe full = new Probe().models("a=a*").text("<a>".repeat(33));
        due("6: in and behind the last of 33 tags", full.offered(96) + full.offered(97) + full.offered(98) + full.offered(99), "a--a");
    }

    private static void renaming() {
        Probe p = new Probe().text("<a>x<b/></a>");
        due("6: by the start tag", p.rename(0, 'c') + p.textNow(), "2<c>x<b/></c>");
        due("6: by its name", p.rename(1, 'd') + p.textNow(), "2<d>x<b/></d>");
        due("6: by its >", p.rename(2, 'e') + p.textNow(), "2<e>x<b/></e>");
        due("6: not behind it", p.rename(3, 'f') + p.textNow(), "-1<e>x<b/></e>");
        due("6: an empty tag", p.rename(4, 'h') + p.textNow(), "1<e>x<h/></e>");
        due("6: an empty tag by its >", p.rename(7, 'g') + p.textNow(), "1<e>x<g/></e>");
        due("6: by the end tag", p.rename(8, 'a') + p.textNow(), "2<a>x<g/></a>");
        due("6: by the end tag's >", p.rename(11, 'b') + p.textNow(), "2<b>x<g/></b>");
        due("6: behind the text", p.rename(12, 'c') + p.textNow(), "-1<b>x<g/></b>");
        due("6: to the same name", p.rename(1, 'b') + p.textNow(), "2<b>x<g/></b>");
        due("13: the elements follow", p.elementNow(1), "b 0 0 12 1 1");
        due("14: the faults follow", p.models("b=#g").faultsNow(), "5@4");
        Probe open = new Probe().text("<a><b></a>");
        due("6: one tag alone", open.rename(4, 'c') + open.textNow(), "1<a><c></a>");
        due("6: the tree may change by it", open.rename(4, 'a') + open.textNow(), "1<a><a></a>");
        due("13: it has changed", open.elementNow(2), "a 1 3 10 0 1");
        due("6: now the end tag is the inner one's", open.rename(8, 'd') + open.textNow(), "2<a><d></d>");
        Probe same = new Probe().text("<a><a></a></a>");
        due("6: the outer one of two", same.rename(12, 'b') + same.textNow(), "2<b><a></a></b>");
    }

    private static void renamingRefused() {
        Probe p = new Probe().text("<a></b>x<</a></c>");
        int[] places = {-1, 3, 6, 7, 8, 13, 16, 17, Integer.MAX_VALUE, Integer.MIN_VALUE};
        for (int place : places) {
            due("6: no renaming at " + place, p.rename(place, 'h'), NONE);
        }
        for (char c : new char[] {'i', 'A', '`', ' ', '.', 0, (char) ('a' + 256)}) {
            due("6: no renaming to " + (int) c, p.rename(0, c), NONE);
        }
        due("6: the text is as it was", p.textNow(), "<a></b>x<</a></c>");
        Probe deep = new Probe().text(EIGHT_OPEN + "<a>");
        due("6: a tag that is too deep", deep.rename(25, 'b'), NONE);
        due("6: the one before it", deep.rename(23, 'b'), 1);
        due("9: eight later ones", p.guide.answer(1), NONE);
    }

    private static void form() {
        String[] tree = {".=a*", "a=(a|b)*", "b=#a*"};
        Probe p = new Probe().models(tree).text("<a> <a/><a><a/> </a></a>");
        due("6: the form's length", p.form(), 32);
        due("16: the form", p.formNow(), "<a>!_<a/>!_<a>!__<a/>!_</a>!</a>");
        Probe two = new Probe().models(tree).text(" <a></a>  <a><b> x<a> <a/></a> </b></a> ");
        due("6: the form's length", two.form(), 40);
        due("16: the form", two.formNow(), "<a></a>!<a>!_<b>_x<a>_<a/></a>_</b>!</a>");
        due("6: the text stays", two.textNow(), " <a></a>  <a><b> x<a> <a/></a> </b></a> ");
        Probe deep = new Probe().models(tree).text("<a>".repeat(8) + "</a>".repeat(8));
        due("6: eight levels", deep.form(), 56 + 14 + 2 * 21 + 7);
        due("16: eight levels", deep.formNow(), "<a>!_<a>!__<a>!___<a>!____<a>!_____<a>!______<a>!_______<a></a>"
            + "!______</a>!_____</a>!____</a>!___</a>!__</a>!_</a>!</a>");
    }

    private static void formOfWhatIsNotLoose() {
        Probe none = new Probe().models("a=a*").text(" <a><a/></a> ");
        due("6: a document without a model", none.form() + none.formNow(), "13_<a><a/></a>_");
        Probe mixed = new Probe().models(".=#a*", "a=a*").text(" <a><a/></a> ");
        due("6: a mixed document", mixed.form() + mixed.formNow(), "13_<a><a/></a>_");
        Probe ink = new Probe().models(".=a*", "a=a*").text("x<a><a/></a>");
        due("6: a document with characters", ink.form() + ink.formNow(), "12x<a><a/></a>");
        Probe childless = new Probe().models(".=a*").text("  ");
        due("6: a document without children", childless.form() + childless.formNow(), "2__");
        Probe empty = new Probe().models(".=a*");
        due("6: an empty text", empty.form() + empty.formNow(), "0");
        Probe inner = new Probe().models(".=a*", "a=a*,b*").text("<a>x<a><a/></a></a> <b> <a/></b>");
        due("6: an element with characters, one without a model", inner.form() + inner.formNow(), "32<a>x<a><a/></a></a>!<b>_<a/></b>");
        Probe spaces = new Probe().models(".=a*", "a=a*").text("<a>  </a><a> <a> </a></a>");
        due("6: an element without children", spaces.form() + spaces.formNow(), "28<a>__</a>!<a>!_<a>_</a>!</a>");
        Probe wrong = new Probe().models(".=a", "a=", "b=a*").text("<b><a/></b><b/>");
        due("6: faults 7 do not matter", wrong.form() + wrong.formNow(), "19<b>!_<a/>!</b>!<b/>");
    }

    private static void formRefused() {
        String[] faulty = {"<", "</a>", "<a>", "<a><b></a>", "<a>".repeat(8) + "<a/>" + "</a>".repeat(8)};
        for (String text : faulty) {
            Probe p = new Probe().models(".=a*").text(text);
            due("6: no form of " + text, p.form(), NONE);
            due("16: none", p.guide.formed(0), NONE);
        }
    }

    private static void formed() {
        Probe p = new Probe().models(".=a*").text("<a/> <a/>");
        p.guide.ask(Probe.FORM, 0, 'a');
        due("16: not before it is worked off", p.guide.formed(0), NONE);
        p.guide.work();
        due("16: the first", p.guide.formed(0), (int) '<');
        due("16: the line end", p.guide.formed(4), 10);
        due("16: the last", p.guide.formed(8), (int) '>');
        due("16: behind it", p.guide.formed(9), NONE);
        due("16: -1", p.guide.formed(-1), NONE);
        due("16: far", p.guide.formed(Integer.MAX_VALUE), NONE);
        p.text("<b>");
        due("16: whatever the text is now", p.formNow(), "<a/>!<a/>");
        due("6: no form", p.form(), NONE);
        due("16: the one before is left", p.formNow(), "<a/>!<a/>");
        p.erase(0, 12);
        for (int i = 0; i < 9; i++) {
            p.offer(0);
        }
        due("16: also when the request is forgotten", p.formNow(), "<a/>!<a/>");
        due("6: an empty form", p.form(), 0);
        due("16: an empty form", p.guide.formed(0), NONE);
    }
}
