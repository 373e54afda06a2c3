/**
 * The section "Terms": for each of its sentences that names a boundary case, a test of its own, with the sentence
 * above it. The number before a check is that of the promise by which it shows.
 */
public final class TermsEdgesTest {
    private static final int NONE = TagGuide.NONE;
    private static final int LEAST = Integer.MIN_VALUE;
    private static final int MOST = Integer.MAX_VALUE;
    private static final String SEVEN_OPEN = "<a><b><c><d><e><f><g>";
    private static final String EIGHT_OPEN = SEVEN_OPEN + "<h>";
    private static final String EIGHT_CLOSED = "</h></g></f></e></d></c></b></a>";
    private static final String[] ALL_MIXED = {"a=#b*", "b=#c*", "c=#d*", "d=#e*", "e=#f*", "f=#g*", "g=#h*", "h=#"};

    public static void main(String[] args) {
        names();
        models();
        fertileNames();
        tags();
        elements();
        faults();
        offer();
        renaming();
        form();
        inbox();
        Probe.end();
    }

    private static void due(String what, Object got, Object want) {
        Probe.due(what, got, want);
    }

    // "NAMES are the letters a .. h."
    private static void names() {
        for (int code = 32; code <= 126; code++) {
            char c = (char) code;
            boolean name = code >= 'a' && code <= 'h';
            Probe p = new Probe().models(".=#").text("<" + c + ">");
            due("13: <" + c + ">", p.guide.element(1, 0), name ? code : NONE);
            p = new Probe().models(".=#").text("<" + c + "/>");
            due("13: <" + c + "/>", p.guide.element(1, 0), name ? code : NONE);
            p = new Probe().models(".=#").text("</" + c + ">");
            due("14: </" + c + ">", p.guide.fault(0, 0), name ? 3 : 1);
            due("3: model " + c, new Probe().define('a', "b," + c), name ? 0 : NONE);
        }
        for (int code = 0; code <= Character.MAX_VALUE; code++) {
            boolean name = code >= 'a' && code <= 'h';
            Probe p = new Probe().text("<a/>");
            due("6: renaming to " + code, p.rename(0, (char) code), name ? 1 : NONE);
            due("12: the name then", p.guide.character(1), name ? code : 'a');
        }
    }

    private static void models() {
        modelsByTheirHead();
        modelsByTheirSequences();
        modelsByTheirItems();
        modelsByTheirMarks();
        rowsOfMarks();
        rowsOfNothing();
        rowsOfTenNames();
    }

    private static void areModels(int answer, String... drafts) {
        for (String draft : drafts) {
            due("3: '" + draft + "'", new Probe().define('a', draft), answer);
        }
    }

    // "A model is, perhaps, # (it is MIXED then), and behind that nothing or an EXPRESSION"
    private static void modelsByTheirHead() {
        areModels(0, "", "#", "a", "#a", "#(a)");
        areModels(NONE, "##", "##a", "a#", "a,#", "a,#b", "(#)", "(#a)", "#,a", "#|a", "#?", "#*", " #", "# ", "# a");
        due("14: with # it is mixed", new Probe().models(".=#").text("x").faultsNow(), "");
        due("14: without it is not", new Probe().models(".=").text("x").faultsNow(), "6@0");
    }

    // "one or more SEQUENCES with | between them; a sequence is one or more ITEMS with , between them"
    private static void modelsByTheirSequences() {
        areModels(0, "a", "a|b", "a|b|c", "a,b", "a,b,c", "a,b|c,d", "a|b,c|d", "a|a", "a,a", "h|g|f|e|d|c|b|a");
        areModels(NONE, "|", ",", "a|", "|a", "a,", ",a", "a||b", "a,,b", "a|,b", "a,|b", "a,b|", "|a,b", "a b", "ab", "a;b");
    }

    // "an item is a name or an expression in ( )"
    private static void modelsByTheirItems() {
        areModels(0, "(a)", "((a))", "(a|b),c", "c,(a|b)", "(a),(b)", "(a)|b", "((a,b)|(c,d)),e");
        areModels(NONE, "()", "(())", "(", ")", ")(", "(a", "a)", "((a)", "(a))", "a(b)", "(a)b", "(a)(b)", "(a,)", "(|a)", "(a|)", "a,()", "()a");
    }

    // "behind it perhaps one of ? * +"
    private static void modelsByTheirMarks() {
        areModels(0, "a?", "a*", "a+", "(a)?", "(a)*", "(a)+", "(a?)?", "(a*)+", "a?,b*|c+", "((a?)*)+");
        areModels(NONE, "?", "*", "+", "?a", "a??", "a?*", "a*?", "a*+", "a+*", "a++", "(a)**", "(?)", "(*a)", "a,?", "a|*", "a ?", "(?a)");
    }

    private static void rows(String model, String allowed, String refused) {
        for (String row : allowed.split(" ", -1)) {
            due("14: '" + model + "' allows '" + row + "'", faultsOfRow(model, row), "");
        }
        for (String row : refused.split(" ", -1)) {
            due("14: '" + model + "' refuses '" + row + "'", faultsOfRow(model, row), "7@0");
        }
    }

    private static String faultsOfRow(String model, String row) {
        Probe p = new Probe().models(".=" + model, "a=", "b=", "c=", "h=");
        return p.text(row.replaceAll("(.)", "<$1/>")).faultsNow();
    }

    // "? (not or once) * (any number of times) + (once or more)"
    private static void rowsOfMarks() {
        rows("a", "a", " aa b");
        rows("a?", " a", "aa b aaa");
        rows("a*", " a aa aaaaaaaaaaaaaaaaaaaaaaaaa", "b ab aab");
        rows("a+", "a aa aaaaaaaaaaaaaaaaaaaaaaaaa", " b ab");
        rows("(a,b)?", " ab", "a b abab");
        rows("(a,b)*", " ab abab", "a b aba");
        rows("(a,b)+", "ab ababab", " a b aba");
        rows("(a?)+", " a aa", "b");
        rows("(a+)?", " a aa", "b");
        rows("(a|b*)+", " a b bbab", "c");
        rows("(a?,b?)+", " a b ab ba bbaa", "c");
        rows("a?,a?,a", "a aa aaa", " aaaa b");
        rows("a?|b", " a b", "ab aa");
        rows("b|a?", " a b", "ba aa");
    }

    // "without one the empty row alone"
    private static void rowsOfNothing() {
        rows("", "", "a b aa");
        rows("#", "", "a b aa");
    }

    // "more than 10 names" is too much, 10 are not: the last one counts as well as the first
    private static void rowsOfTenNames() {
        rows("a,a,a,a,a,a,a,a,a,h", "aaaaaaaaah", "aaaaaaaaa aaaaaaaaaa aaaaaaaah aaaaaaaaahh aaaaaaaaaah");
        rows("(a,a,a,a,a,a,a,a,a,h)*", " aaaaaaaaah aaaaaaaaahaaaaaaaaah", "h aaaaaaaaahh");
        rows("a?,a?,a?,a?,a?,a?,a?,a?,a?,h?", " a h aaaaaaaaah aaaaaaaaa", "aaaaaaaaaa ha hh");
        rows("((((((b),a),a)?,a)+|h),h)*", " ah hh baaah ahhhbaaah", "a h b ahh baah");
    }

    private static void fertileNames() {
        fertileByTheEmptyRow();
        fertileInSteps();
    }

    // "A name is FERTILE if it has a model that allows a row (perhaps the empty one) of names that are fertile"
    private static void fertileByTheEmptyRow() {
        String[] fertile = {"", "#", "b?", "b*", "#b*", "(b|c)*", "b?,c?", "(b,c)?", "a?", "a*", "(b+)?", "b|c*"};
        String[] barren = {"b", "#b", "b+", "b,c?", "b|c", "a", "a+", "(a|b)+", "(b?,c)+"};
        for (String model : fertile) {
            due("15: " + model, Probe.names(new Probe().models("a=" + model).guide.fertile()), "a");
        }
        for (String model : barren) {
            due("15: " + model, Probe.names(new Probe().models("a=" + model).guide.fertile()), "");
        }
        due("15: no model", new Probe().models("b=a*").guide.fertile(), 2);
    }

    // "those names that can be shown to be so in a number of steps"
    private static void fertileInSteps() {
        Probe circle = new Probe().models("a=b", "b=c", "c=d", "d=e", "e=f", "f=g", "g=h", "h=a");
        due("15: a circle of eight", circle.guide.fertile(), 0);
        due("15: with a way out at its end", circle.models("h=a?").guide.fertile(), 255);
        due("15: and closed again", circle.models("h=a+").guide.fertile(), 0);
        due("15: with a way out at its beginning", circle.models("a=#").guide.fertile(), 255);
        Probe back = new Probe().models("h=g", "g=f", "f=e", "e=d", "d=c", "c=b", "b=a", "a=");
        due("15: eight steps the other way", back.guide.fertile(), 255);
        due("15: without the first one", back.models("a=a").guide.fertile(), 0);
        due("15: itself or another one", Probe.names(new Probe().models("a=a|b", "b=").guide.fertile()), "ab");
        due("15: itself and another one", Probe.names(new Probe().models("a=a,b", "b=").guide.fertile()), "b");
    }

    private static void tags() {
        tagsWithoutAnythingBetween();
        tagsTakenWhole();
        charactersOfTheOpenElement();
    }

    // "A START TAG is < name > , an EMPTY TAG < name / > , an END TAG < / name > , without anything between."
    private static void tagsWithoutAnythingBetween() {
        String[] tags = {"<a>", "<a/>", "</a>"};
        for (String tag : tags) {
            due("14: " + tag, new Probe().models(".=#a*", "a=").text(tag).faultsNow().startsWith("1"), false);
            for (int i = 1; i < tag.length(); i++) {
                String broken = tag.substring(0, i) + " " + tag.substring(i);
                due("14: " + broken, new Probe().text(broken).faultsNow(), "1@0");
                due("14: the beginning of " + tag, new Probe().text(tag.substring(0, i)).faultsNow(), "1@0");
                String shorter = tag.substring(0, i) + tag.substring(i + 1);
                boolean other = shorter.equals("<a>");
                due("14: " + shorter, new Probe().text(shorter).faultsNow(), other ? "4@0 5@0" : "1@0");
            }
            due("14: without <", new Probe().text(tag.substring(1)).faultsNow(), "");
        }
        for (String text : new String[] {"<a//>", "<//a>", "</a/>", "<>", "</>", "<ab>", "<A>"}) {
            due("14: " + text, new Probe().text(text).faultsNow(), "1@0");
        }
        due("14: cut off by the end", new Probe().models("a=").text("<a/><a/").faultsNow(), "1@4");
    }

    // "where one of these begins it is taken whole; else one character is taken"
    private static void tagsTakenWhole() {
        due("13: behind a bracket", new Probe().text("<<a/>").elementNow(1), "a 0 1 5 0 0");
        due("13: behind a broken tag", new Probe().text("<a<b/>").elementNow(1), "b 0 2 6 0 0");
        due("13: behind another broken tag", new Probe().text("</<b/>").elementNow(1), "b 0 2 6 0 0");
        due("13: side by side", new Probe().text("<a><b/></a>").elementNow(2), "b 1 3 7 0 0");
        due("13: at the end of a full text", new Probe().text("x".repeat(96) + "<a/>").elementNow(1), "a 0 96 100 0 0");
        due("14: cut off by the full text", new Probe().text("x".repeat(97) + "<a/>").faultsNow(), "1@97");
        due("14: what is left of it is a character", new Probe().text("<a/>>").faultsNow(), "5@0");
    }

    // "as CHARACTERS of the element that is open (the one begun last that isn't closed yet; else the document)"
    private static void charactersOfTheOpenElement() {
        String[] strict = {".=a*", "a=b*", "b="};
        due("14: of the document", new Probe().models(strict).text("x<a/>").faultsNow(), "6@0");
        due("14: of the document again", new Probe().models(strict).text("<a/>x").faultsNow(), "6@4");
        due("14: of the open one", new Probe().models(strict).text("<a><b/>x</a>").faultsNow(), "6@7");
        due("14: of the inner one", new Probe().models(".=a*", "a=#b*", "b=").text("<a>x<b>y</b>z</a>").faultsNow(), "6@7");
        due("14: of the outer one", new Probe().models(".=a*", "a=b*", "b=#").text("<a><b>y</b>z</a>").faultsNow(), "6@11");
        due("14: behind an end tag that closes two", new Probe().models(".=", "a=#b", "b=#").text("<a><b></a>x").faultsNow(), "7@0 4@3 6@10");
        due("14: behind an ignored end tag", new Probe().models(".=a", "a=").text("<a></b>x</a>").faultsNow(), "3@3 6@7");
    }

    private static void elements() {
        eightOpenElements();
        endTags();
        closedInTheEnd();
        numbersOfElements();
    }

    // "A start or empty tag within eight open elements is ignored: a fault 2."
    private static void eightOpenElements() {
        due("14: eight", new Probe().models(ALL_MIXED).text(EIGHT_OPEN + EIGHT_CLOSED).faultsNow(), "");
        due("13: an empty tag as the eighth", new Probe().text(SEVEN_OPEN + "<h/>").elementNow(8), "h 7 21 25 0 0");
        Probe two = new Probe().text(SEVEN_OPEN + "<h/><h>");
        due("13: behind it another one", two.elementNow(9), "h 7 25 28 0 0");
        Probe start = new Probe().models(ALL_MIXED).text(EIGHT_OPEN + "<a>" + EIGHT_CLOSED);
        due("14: a start tag as the ninth", start.faultsNow() + " " + start.guide.element(9, 0), "2@24 -1");
        Probe empty = new Probe().models(ALL_MIXED).text(EIGHT_OPEN + "<a/>" + EIGHT_CLOSED);
        due("14: an empty tag as the ninth", empty.faultsNow() + " " + empty.guide.element(8, 4), "2@24 0");
        Probe many = new Probe().models(ALL_MIXED).text(EIGHT_OPEN + "<a><a/><h>" + EIGHT_CLOSED);
        due("14: each of several", many.faultsNow(), "2@24 2@27 2@31");
        Probe again = new Probe().text(EIGHT_OPEN + "<a/></h><h/>");
        due("13: when one is closed there is room again", again.elementNow(9), "h 7 32 36 0 0");
        Probe end = new Probe().models(ALL_MIXED).text(EIGHT_OPEN + "<h></h></h>");
        due("14: the end tag of an ignored one closes another", end.answerTo(Probe.FAULTS, 0, 'a'), 1 + 7 + 1);
        due("14: the second one closes none", end.guide.fault(8, 0) + "@" + end.guide.fault(8, 1), "3@31");
    }

    private static void endTags() {
        endTagOfTheOpenElement();
        endTagOfAnOuterElement();
        endTagOfNone();
    }

    // "An end tag closes the open element if that has its name."
    private static void endTagOfTheOpenElement() {
        Probe p = new Probe().text("<a><a></a>x");
        due("13: the open one alone", p.elementNow(2), "a 1 3 10 0 1");
        due("13: not the outer one of its name", p.elementNow(1), "a 0 0 11 1 0");
    }

    // "all that were begun within the latest such one are closed first, without a tag of their own, before this end tag"
    private static void endTagOfAnOuterElement() {
        Probe p = new Probe().text("<b><b><c><a/><d>x</b>y");
        due("13: the latest of the name", p.elementNow(2), "b 1 3 21 1 1");
        due("13: the earlier one is open", p.elementNow(1), "b 0 0 22 1 0");
        due("13: what was begun within", p.elementNow(3), "c 2 6 17 2 0");
        due("13: what was begun within that", p.elementNow(5), "d 3 13 17 0 0");
        due("13: what was closed already", p.elementNow(4), "a 3 9 13 0 0");
        Probe all = new Probe().text(EIGHT_OPEN + "</a>");
        due("13: from eight to none", all.elementNow(1) + ", " + all.elementNow(8), "a 0 0 28 1 1, h 7 21 24 0 0");
    }

    // "If none has the name, it is ignored: a fault 3."
    private static void endTagOfNone() {
        due("14: none at all", new Probe().text("</a>").faultsNow(), "3@0");
        due("14: none open", new Probe().models("a=").text("<a></a></a>").faultsNow(), "3@7");
        due("14: behind an empty tag", new Probe().models("a=").text("<a/></a>").faultsNow(), "3@4");
        due("14: another one open", new Probe().models("a=").text("<a></b></a>").faultsNow(), "3@3");
        due("14: closed by an outer one's end tag", new Probe().models("a=b", "b=").text("<a><b></a></b>").faultsNow(), "4@3 3@10");
        due("14: a child of its name, closed", new Probe().models("a=b", "b=").text("<a><b/></b></a>").faultsNow(), "3@7");
    }

    // "What isn't closed in the end is closed without a tag there."
    private static void closedInTheEnd() {
        Probe p = new Probe().text("<a> <b/> <c>x");
        due("13: both", p.elementNow(1) + ", " + p.elementNow(3), "a 0 0 13 2 0, c 1 9 13 0 0");
        due("14: both", p.faultsNow(), "4@0 5@0 5@4 4@9 5@9");
        due("13: in a full text", new Probe().text("x".repeat(97) + "<a>").elementNow(1), "a 0 97 100 0 0");
        Probe eight = new Probe().models(ALL_MIXED).text(EIGHT_OPEN);
        due("14: eight", eight.faultsNow(), "4@0 4@3 4@6 4@9 4@12 4@15 4@18 4@21");
        due("13: eight", eight.elementNow(1) + ", " + eight.elementNow(8), "a 0 0 24 1 0, h 7 21 24 0 0");
        due("13: in an empty text there is none", new Probe().elementNow(0), ". -1 0 0 0 0");
    }

    // "Elements are numbered from 1 in the order in which they begin; 0 is the document."
    private static void numbersOfElements() {
        Probe p = new Probe().text("<a><b/><c><d/></c></a><e/>");
        StringBuilder all = new StringBuilder();
        for (int n = 0; n <= 5; n++) {
            all.append((char) p.guide.element(n, 0)).append(p.guide.element(n, 1));
        }
        due("13: by their beginnings", all.toString(), ".-1a0b1c1d3e0");
        p.text("<h/>");
        due("13: one before them", (char) p.guide.element(1, 0) + "" + (char) p.guide.element(6, 0), "he");
    }

    private static void faults() {
        faultOfTaken();
        faultUnclosed();
        faultWithoutModel();
        faultOfCharacters();
        faultOfChildren();
        faultsInOrder();
    }

    // "A taken < is a FAULT of kind 1."
    private static void faultOfTaken() {
        due("14: none", new Probe().text(">/a").faultsNow(), "");
        due("14: at the ends", new Probe().text("<x<").faultsNow(), "1@0 1@2");
        due("14: also where characters may be", new Probe().models(".=#").text("<").faultsNow(), "1@0");
        due("14: it is a character too", new Probe().models(".=").text("<").faultsNow(), "1@0 6@0");
        due("14: the < of a tag is not taken", new Probe().models("a=").text("<a></a><a/>").faultsNow(), "");
    }

    // "4 an element that is closed without a tag"
    private static void faultUnclosed() {
        due("14: by the end of the text", new Probe().models("a=").text("<a>").faultsNow(), "4@0");
        due("14: by another one's end tag", new Probe().models("a=b", "b=").text("<a><b></a>").faultsNow(), "4@3");
        due("14: not with its own end tag", new Probe().models("a=").text("<a></a>").faultsNow(), "");
        due("14: not with an empty tag", new Probe().models("a=").text("<a/>").faultsNow(), "");
        due("14: not the document", new Probe().models(".=").faultsNow(), "");
    }

    // "5 one whose name has no model (the document has no name)"
    private static void faultWithoutModel() {
        for (char name = 'a'; name <= 'h'; name++) {
            Probe p = new Probe().text("<" + name + "/>");
            due("14: without", p.faultsNow(), "5@0");
            due("14: with the empty one", p.models(name + "=").faultsNow(), "");
        }
        due("14: not the document", new Probe().text("x").faultsNow(), "");
        due("14: neither 6 nor 7 then", new Probe().models("b=").text("<a>x<b/></a>").faultsNow(), "5@0");
    }

    // "6 an element (or the document) with a model that isn't mixed, which has characters other than spaces"
    private static void faultOfCharacters() {
        due("14: no characters", new Probe().models("a=").text("<a></a>").faultsNow(), "");
        due("14: spaces", new Probe().models("a=").text("<a>  </a>").faultsNow(), "");
        for (int code = 33; code <= 126; code++) {
            String faults = new Probe().models(".=", "a=").text(" " + (char) code).faultsNow();
            due("14: code " + code, faults, code == '<' ? "1@1 6@1" : "6@1");
        }
        due("14: once an element, at the first one", new Probe().models("a=").text("<a> x y</a>").faultsNow(), "6@4");
        due("14: each element", new Probe().models("a=a*").text("<a>x<a>y</a></a>").faultsNow(), "6@3 6@7");
        due("14: the first one behind a child", new Probe().models("a=a*").text("<a> <a/> x</a>").faultsNow(), "6@9");
        due("14: of the document", new Probe().models(".=a*", "a=").text(" <a/> x").faultsNow(), "6@6");
        due("14: not with a mixed model", new Probe().models(".=#", "a=#").text("x<a>y</a>").faultsNow(), "7@0");
        due("14: not without a model", new Probe().text("x").faultsNow(), "");
    }

    // "7 one with a model that doesn't allow the names of its children in order"
    private static void faultOfChildren() {
        due("14: none, where one is due", new Probe().models("a=b", "b=").text("<a></a>").faultsNow(), "7@0");
        due("14: none, of an empty tag", new Probe().models("a=b", "b=").text("<a/>").faultsNow(), "7@0");
        due("14: one, where none is due", new Probe().models("a=", "b=").text("<a><b/></a>").faultsNow(), "7@0");
        due("14: the wrong order", new Probe().models("a=b,c", "b=", "c=").text("<a><c/><b/></a>").faultsNow(), "7@0");
        due("14: of the document without a text", new Probe().models(".=a").faultsNow(), "7@0");
        due("14: of the document behind its beginning", new Probe().models(".=#a", "b=").text("x<b/>").faultsNow(), "7@0");
        due("14: ignored tags are no children", new Probe().models(ALL_MIXED).text(EIGHT_OPEN + "<a/>" + EIGHT_CLOSED).faultsNow(), "2@24");
        due("14: children that are closed without a tag", new Probe().models("a=b", "b=").text("<a><b></a>").faultsNow(), "4@3");
    }

    // "They are ordered by place, then by kind."
    private static void faultsInOrder() {
        Probe p = new Probe().models(".=b", "a=b");
        due("14: all at one place", p.text("<a>").faultsNow(), "4@0 7@0 7@0");
        due("14: 1, 6 and 7", new Probe().models(".=b").text("<").faultsNow(), "1@0 6@0 7@0");
        due("14: 3 and 7", new Probe().models(".=b").text("</a>").faultsNow(), "3@0 7@0");
        due("14: 4 and 5 and 7 of the document", new Probe().models(".=b").text("<a>").faultsNow(), "4@0 5@0 7@0");
        due("14: an outer fault behind an inner one", new Probe().models("a=b*", "b=").text("<a><b>x</b>y</a>").faultsNow(), "6@6 6@11");
        due("14: places of two figures", new Probe().models("a=#").text("<a>xxxxxx<</a><").faultsNow(), "1@9 1@14");
    }

    private static void offer() {
        offerOutsideOfTheText();
        offerWithinTags();
        offerByTheInside();
        offerByFertileNames();
        offerByTheChildrenBefore();
        offerWithRowsBehind();
        offerWithoutModel();
    }

    // "nothing (-1) if it isn't 0 .. length"
    private static void offerOutsideOfTheText() {
        for (int n : new int[] {0, 1, 3, 99, 100}) {
            Probe p = new Probe().models(".=#a*", "a=").text("x".repeat(n));
            for (int place : new int[] {LEAST, -1, n + 1, 101, 102, MOST}) {
                due("6: " + place + " of " + n, p.offer(place), NONE);
            }
            due("6: 0 and " + n, p.offer(0) + p.offer(n), 2);
        }
    }

    // "or lies within a tag (behind its < and not behind its >; ignored tags too)"
    private static void offerWithinTags() {
        String[] texts = {"<a>", "</a>", "<a/>", "x<a></a>x", "<<a/>>", "<a/><a/>", "</b></b>", "<a/ >"};
        String[] within = {"0110", "01110", "01110", "0011011100", "0011100", "011101110", "011101110", "000000"};
        for (int i = 0; i < texts.length; i++) {
            Probe p = new Probe().models(".=#a*", "a=#a*").text(texts[i]);
            StringBuilder found = new StringBuilder();
            for (int place = 0; place <= texts[i].length(); place++) {
                found.append(p.offer(place) == NONE ? 1 : 0);
            }
            due("6: within the tags of " + texts[i], found.toString(), within[i]);
        }
        Probe deep = new Probe().models("h=#h*").text(EIGHT_OPEN + "<h><h/>");
        String around = deep.offer(24) + " " + deep.offer(25) + " " + deep.offer(26) + " " + deep.offer(27);
        due("6: in a start tag that is too deep", around, "128 -1 -1 128");
        around = deep.offer(28) + " " + deep.offer(30) + " " + deep.offer(31);
        due("6: in an empty tag that is too deep", around, "-1 -1 128");
        Probe most = new Probe().models("a=a*").text("<a>".repeat(33) + "x");
        around = most.offer(96) + " " + most.offer(97) + " " + most.offer(98) + " " + most.offer(99) + " " + most.offer(100);
        due("6: in the last of as many tags as a text can have", around, "1 -1 -1 1 1");
        Probe gone = new Probe().models(".=#a*", "a=").text("xyz<a/>");
        due("6: in a tag", gone.offered(4) + gone.rename(4, 'a'), "-1");
        gone.erase(3, 4).text("xyz");
        due("6: where the tag was that is gone", gone.offered(4) + gone.rename(4, 'a'), "a-1");
    }

    // "with the element whose inside has the place (of several the one begun last; the place before and the one behind
    // the inside count)"
    private static void offerByTheInside() {
        String[] models = {".=#(a|h)*", "a=#b*", "b=#c*", "c=", "h="};
        String[][] cases = {
            {"", "AH"}, {"x", "AH AH"}, {"<a></a>", "AH - - b - - - AH"}, {"<a>x</a>", "AH - - b b - - - AH"},
            {"<a/>", "AH - - - AH"}, {"<a>", "AH - - b"}, {"<a>x", "AH - - b b"}, {"<a><b></a>", "AH - - b - - c - - - AH"},
            {"<a><b/></a>", "AH - - b - - - b - - - AH"}, {"<a><b>", "AH - - b - - c"},
            {"<a><b></b></a>", "AH - - b - - c - - - b - - - AH"}, {"<a></a><a></a>", "AH - - b - - - AH - - b - - - AH"},
        };
        for (String[] c : cases) {
            Probe p = new Probe().models(models).text(c[0]);
            StringBuilder found = new StringBuilder();
            for (int place = 0; place <= c[0].length(); place++) {
                found.append(place == 0 ? "" : " ").append(p.offered(place).replace("ah", "AH"));
            }
            due("6: by the insides of " + c[0], found.toString(), c[1]);
        }
    }

    // "the names n (n's number from 0 for a as a bit) that are fertile"
    private static void offerByFertileNames() {
        String any = ".=(a|b|c|d|e|f|g|h)*";
        due("6: none", new Probe().models(any).offer(0), 0);
        due("6: the first", new Probe().models(any, "a=").offer(0), 1);
        due("6: the last", new Probe().models(any, "h=").offer(0), 128);
        due("6: all", new Probe().models(any, "a=", "b=", "c=", "d=", "e=", "f=", "g=", "h=").offer(0), 255);
        due("6: not one that needs itself", new Probe().models(any, "a=", "b=b").offer(0), 1);
        due("6: nor one that needs one without a model", new Probe().models(any, "a=", "b=c").offer(0), 1);
        due("6: nor one without a model that is there", new Probe().models(any, "a=").text("<b/>").offer(0), 1);
    }

    // "the names of its children that begin before the place", "those of its children that begin at the place or behind it"
    private static void offerByTheChildrenBefore() {
        Probe p = new Probe().models(".=a,b?,c,d?", "a=", "b=", "c=", "d=").text("<a/> <c/>");
        due("6: where the first begins", p.offered(0), "");
        due("6: behind the first", p.offered(4), "b");
        due("6: where the second begins", p.offered(5), "b");
        due("6: behind the second", p.offered(9), "d");
        Probe inner = new Probe().models(".=(a|b)*", "a=(a,b)?", "b=").text("<a><b/></a>");
        due("6: a grandchild is no child", inner.offered(0) + inner.offered(11), "abab");
        due("6: where a child's child begins", inner.offered(3) + "/" + inner.offered(7), "a/");
    }

    // "then n, then any row of fertile names": the row may be empty, and comes behind n alone
    private static void offerWithRowsBehind() {
        String[] leaves = {"a=", "b=", "c=", "d="};
        due("6: the empty row", new Probe().models(leaves).models(".=a").offered(0), "a");
        due("6: a row of one", new Probe().models(leaves).models(".=a,b").offered(0), "a");
        due("6: a row of nine", new Probe().models(leaves).models(".=a,b,c,d,a,b,c,d,a,b").offered(0), "a");
        due("6: no row before n", new Probe().models(leaves).models(".=a,b").text("<b/>").offered(4), "");
        due("6: the row ends before the next child", new Probe().models(leaves).models(".=a,b,c,d").text("<d/>").offered(0), "a");
        due("6: not with a name that isn't fertile", new Probe().models(leaves).models(".=a,e|b,e?,c|d,e+").offered(0), "b");
        due("6: a name that isn't fertile as the next child", new Probe().models(leaves).models(".=a,e").text("<e/>").offered(0), "a");
        due("6: a turn of +", new Probe().models(leaves).models(".=(a,b,c)+").text("<a/><b/><c/>").offered(12), "a");
        due("6: in the middle of a turn", new Probe().models(leaves).models(".=(a,b,c)+").text("<a/><b/><c/>").offered(4), "b");
    }

    // "(None if it has no model.)"
    private static void offerWithoutModel() {
        due("6: the document", new Probe().models("a=").offer(0), 0);
        Probe p = new Probe().models(".=a*", "b=").text("<a></a>");
        due("6: an element", p.offer(3), 0);
        due("6: with the empty one", p.models("a=").offer(3), 0);
        due("6: with one", p.models("a=b?").offer(3), 2);
    }

    private static void renaming() {
        renamingByPlace();
        renamingOfHowManyTags();
        renamingToNoName();
    }

    // "if a start, empty or end tag that belongs to an element has the place (its < up to its > )", "Otherwise ... -1"
    private static void renamingByPlace() {
        String text = "x<a>y<b/></a>z<</c><h>";
        //             0123456789012345678901
        String tags = ".222.1111" + "2222" + "." + "....." + "111" + ".";
        for (int place = 0; place <= text.length(); place++) {
            Probe p = new Probe().text(text);
            char want = tags.charAt(place);
            due("6: renaming at " + place, p.rename(place, 'd'), want == '.' ? NONE : want - '0');
            due("6: the text by renaming at " + place, p.textNow().equals(text), want == '.');
        }
        for (int place : new int[] {LEAST, -1, text.length() + 1, 100, MOST}) {
            due("6: renaming at " + place, new Probe().text(text).rename(place, 'd'), NONE);
        }
        due("6: in an empty text", new Probe().rename(0, 'a'), NONE);
        Probe deep = new Probe().text(EIGHT_OPEN + "<a/>");
        due("6: an ignored tag", deep.rename(24, 'b') + deep.rename(27, 'b'), 2 * NONE);
        due("6: the tag before it", deep.rename(23, 'b'), 1);
        Probe full = new Probe().text("<a>" + "x".repeat(93) + "</a>");
        due("6: at the end of a full text", full.rename(99, 'b') + " " + full.guide.character(1) + " " + full.guide.character(98), "2 98 98");
    }

    // "how many tags it has, 1 or 2"
    private static void renamingOfHowManyTags() {
        String[][] cases = {
            {"<a></a>", "2<h></h>"}, {"<a/>", "1<h/>"}, {"<a>", "1<h>"}, {"<a><b></b>", "1<h><b></b>"}, {"<a><a></a></a>", "2<h><a></a></h>"},
            {"<a><a></a>", "1<h><a></a>"}, {"<a></a></a>", "2<h></h></a>"}, {"<a></b></a>", "2<h></b></h>"}, {"<a><b></a>", "2<h><b></h>"},
        };
        for (String[] c : cases) {
            Probe p = new Probe().text(c[0]);
            due("6: renaming in " + c[0], p.rename(0, 'h') + p.textNow(), c[1]);
            due("13: the element's name then", p.guide.element(1, 0), (int) 'h');
        }
        Probe less = new Probe().text("<a></a>");
        due("6: with an end tag", less.rename(0, 'b'), 2);
        due("6: when that is gone", less.erase(3, 4).rename(0, 'c') + less.textNow(), "1<c>");
        Probe most = new Probe().text("<a>".repeat(32) + "</a>");
        due("6: with as many tags as a text can have", most.rename(99, 'b') + " " + most.rename(0, 'b'), "2 1");
    }

    // "or if the new name isn't one, -1"
    private static void renamingToNoName() {
        for (char c : new char[] {0, ' ', '.', '/', '<', '`', 'i', 'A', 'H', 127, 'a' + 128, 'a' + 256, Character.MAX_VALUE}) {
            Probe p = new Probe().text("<a></a>");
            due("6: to " + (int) c, p.rename(1, c) + p.textNow(), "-1<a></a>");
        }
        due("6: to the name that it has", new Probe().text("<a></a>").rename(1, 'a'), 2);
    }

    private static void form() {
        formWithFaults();
        formOfLooseElements();
        formOfNotLooseElements();
        formOfTheDocument();
    }

    private static String formOf(String models, String text) {
        Probe p = new Probe().models(models.split(" ")).text(text);
        int length = p.form();
        String form = length == NONE ? "none" : p.formNow();
        due("6: the answer is the form's length", length, length == NONE ? NONE : form.length());
        return form;
    }

    // "If there are faults of kinds 1 to 4, there is none (-1)."
    private static void formWithFaults() {
        due("6: kind 1", formOf(".=#", "<"), "none");
        due("6: kind 2", formOf(".=#", EIGHT_OPEN + "<a/>" + EIGHT_CLOSED), "none");
        due("6: kind 3", formOf(".=#", "</a>"), "none");
        due("6: kind 4", formOf(".=#", "<a>"), "none");
        due("6: kind 4 within", formOf("a=#b", "<a><b></a>"), "none");
        due("6: kind 5", formOf("b=", "<a> </a>"), "<a>_</a>");
        due("6: kind 6", formOf(".=", "x"), "x");
        due("6: kind 7", formOf(".=a", "  "), "__");
        due("6: kind 7 of a loose one", formOf(".=b a=", "<a/> <a/>"), "<a/>!<a/>");
        due("6: a fault of kind 1 behind those of others", formOf(".=a*", "<b>x</b>".repeat(11) + "<"), "none");
    }

    // "for each child a line end (code 10), as many spaces as elements have the child in them, and the form of the child,
    // then a line end, one space less, and its end tag"
    private static void formOfLooseElements() {
        String models = "a=(a|b)* b=";
        due("6: one child", formOf(models + " .=a", "<a><b/></a>"), "<a>!_<b/>!</a>");
        due("6: three children", formOf(models + " .=a", "<a><b/><b/><b/></a>"), "<a>!_<b/>!_<b/>!_<b/>!</a>");
        due("6: spaces go", formOf(models + " .=a", "  <a>  <b/>  </a>  "), "<a>!_<b/>!</a>");
        due("6: three levels", formOf(models + " .=a", "<a><a><b></b></a></a>"), "<a>!_<a>!__<b></b>!_</a>!</a>");
        String deep = "<a>".repeat(8) + "</a>".repeat(8);
        String want = "<a>!_<a>!__<a>!___<a>!____<a>!_____<a>!______<a>!_______<a></a>!______</a>!_____</a>!____</a>!___</a>!__</a>!_</a>!</a>";
        due("6: eight levels", formOf(models + " .=a", deep), want);
        Probe p = new Probe().models("a=a*", ".=a").text("<a><a/></a>");
        p.form();
        due("16: the line end's code", p.guide.formed(3) + " " + p.guide.formed(4) + " " + p.guide.formed(9), "10 32 10");
    }

    // "LOOSE is one with a model that isn't mixed, with at least one child and without characters other than spaces; all
    // others have as their form what they are in the text"
    private static void formOfNotLooseElements() {
        due("6: no model", formOf(".=a*", "<a> <a/></a> "), "<a>_<a/></a>");
        due("6: a mixed one", formOf(".=a* a=#a*", "<a> <a/></a> "), "<a>_<a/></a>");
        due("6: no child", formOf(".=a* a=a*", "<a>  </a> "), "<a>__</a>");
        due("6: an empty tag", formOf(".=a* a=a*", " <a/> "), "<a/>");
        due("6: characters", formOf(".=a* a=a*", "<a> <a/>x</a> "), "<a>_<a/>x</a>");
        due("6: a child's characters are not its own", formOf(".=a* a=b* b=#", "<a> <b>x </b></a>"), "<a>!_<b>x_</b>!</a>");
        due("6: a loose one within", formOf(".=a* a=#b* b=b*", "<a> <b> <b/></b></a>"), "<a>_<b>_<b/></b></a>");
        due("6: beside a loose one", formOf(".=a* a=a* b=#", "<a><b> </b><a> </a> </a><b> <a> <a/></a></b>"),
            "<a>!_<b>_</b>!_<a>_</a>!</a>!<b>_<a>_<a/></a></b>");
    }

    // "The form of the document, if it is loose in this sense, is the forms of its children with line ends between them;
    // else it is the text."
    private static void formOfTheDocument() {
        due("6: one child", formOf(".=a* a=", " <a/> "), "<a/>");
        due("6: two children", formOf(".=a* a=", "<a/><a></a>"), "<a/>!<a></a>");
        due("6: 25 children", formOf(".=a* a=", "<a/>".repeat(25)), "<a/>!".repeat(24) + "<a/>");
        due("6: no child", formOf(".=a* a=", "   "), "___");
        due("6: an empty text", formOf(".=a* a=", ""), "");
        due("6: no model", formOf("a=a*", " <a> <a/></a>"), "_<a>_<a/></a>");
        due("6: a mixed one", formOf(".=#a* a=a*", " <a> <a/></a>"), "_<a>_<a/></a>");
        due("6: characters", formOf(".=a* a=a*", " <a> <a/></a>x"), "_<a>_<a/></a>x");
        due("6: 100 characters", formOf("a=", "x".repeat(100)), "x".repeat(100));
    }

    // "INBOX: at most 12 MESSAGES, worked off one by one in the order in which they came"
    private static void inbox() {
        Probe p = new Probe();
        String messages = "ireiireeirri";
        int requests = 0;
        for (int i = 0; i < 12; i++) {
            char kind = messages.charAt(i);
            requests += kind == 'r' ? 1 : 0;
            due("10: with " + i + " there", p.guide.inbox(), i);
            if (kind == 'r') {
                due("6: there is room", p.guide.ask(1, 0, 'a'), requests);
            } else {
                due("4, 5: there is room", kind == 'i' ? p.guide.insert(0, '<') : p.guide.erase(0, 1), true);
            }
        }
        due("4, 5, 6: no room", p.guide.insert(0, '<') + " " + p.guide.erase(0, 1) + " " + p.guide.ask(0, 0, 'a'), "false false -2");
        StringBuilder order = new StringBuilder();
        for (int i = 0; i < 13; i++) {
            order.append(p.guide.work()).append(' ').append(p.guide.length()).append(' ');
        }
        due("8: one by one", order.toString(), "0 1 1 1 0 0 0 1 0 2 2 2 0 1 0 0 0 1 3 1 4 1 0 2 -1 2 ");
        due("9: by the text then", p.guide.answer(1) + " " + p.guide.answer(2) + " " + p.guide.answer(3) + " " + p.guide.answer(4), "1 2 1 1");
    }
}
