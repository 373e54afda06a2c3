/**
 * The sections of promises 1 to 16: for each of their sentences that names a boundary case, a test of its own,
 * with the sentence above it. No object gets more than the 512 calls that the document promises anything for.
 */
public final class CallEdgesTest {
    private static final int NONE = TagGuide.NONE;
    private static final int FULL = TagGuide.FULL;
    private static final int WAITS = TagGuide.WAITS;
    private static final int LEAST = Integer.MIN_VALUE;
    private static final int MOST = Integer.MAX_VALUE;
    private static final String LONGEST_DRAFT = "((((((a*,b+)?|c)+,d?)*|e)?,f)*,g+|h,a,b)";

    public static void main(String[] args) {
        newObject();
        draft();
        define();
        insert();
        erase();
        ask();
        cancel();
        work();
        answer();
        counts();
        character();
        element();
        fault();
        fertile();
        formed();
        lastOfManyCalls();
        Probe.end();
    }

    private static void due(String what, Object got, Object want) {
        Probe.due(what, got, want);
    }

    private static boolean isWritable(int code) {
        return code >= 32 && code <= 126;
    }

    private static boolean isName(int code) {
        return code >= 'a' && code <= 'h';
    }

    private static void workOff(Probe p, int messages) {
        for (int i = 0; i < messages; i++) {
            p.guide.work();
        }
    }

    /** An object whose inbox has twelve messages: six changes and the requests 1 to 6. */
    private static Probe withFullInbox() {
        Probe p = new Probe();
        for (int i = 1; i <= 6; i++) {
            due("4: there is room", p.guide.insert(0, 'x'), true);
            due("6: there is room", p.guide.ask(1, 0, 'a'), i);
        }
        return p;
    }

    // Promise 1

    private static void newObject() {
        noModels();
        emptyText();
        emptyInbox();
        objectsOfTheirOwn();
    }

    // "No models"
    private static void noModels() {
        for (char name = 'a'; name <= 'h'; name++) {
            due("1: no model of " + name, new Probe().text("<" + name + ">x</" + name + ">").faultsNow(), "5@0");
        }
        due("1: no model of the document: neither 6 nor 7", new Probe().text("xy").faultsNow(), "");
        due("1: so nothing can be offered", new Probe().offer(0), 0);
        due("1: nor is a name fertile", new TagGuide().fertile(), 0);
        due("1: nor is a draft begun", new Probe().define('.', LONGEST_DRAFT), 0);
    }

    // "an empty text"
    private static void emptyText() {
        Probe p = new Probe();
        due("1: length", p.guide.length(), 0);
        due("1: no character", p.guide.character(0), NONE);
        due("1: the document alone", p.elementNow(0) + " " + p.guide.element(1, 0), ". -1 0 0 0 0 -1");
        due("1: no faults", p.faultsNow() + p.answerTo(Probe.FAULTS, 0, 'a'), "0");
        due("1: nothing to rename", p.rename(0, 'a'), NONE);
        due("1: nothing was formed", p.guide.formed(0), NONE);
        due("1: an empty form", p.form(), 0);
    }

    // "an empty inbox"
    private static void emptyInbox() {
        TagGuide guide = new TagGuide();
        due("1: inbox", guide.inbox(), 0);
        due("1: nothing to do", guide.work(), NONE);
        due("1: nothing to cancel", guide.cancel(1) || guide.cancel(0), false);
        due("1: no answers", guide.answer(0) + guide.answer(1), 2 * NONE);
        due("1: the first request", guide.ask(0, 0, 'a'), 1);
    }

    private static void objectsOfTheirOwn() {
        Probe used = new Probe().models(".=", "a=").text("<a/>");
        used.form();
        used.guide.write('a');
        used.guide.ask(1, 0, 'a');
        TagGuide other = new TagGuide();
        due("1: a new object has nothing of another one", other.fertile() + other.length() + other.inbox(), 0);
        due("1: nor its form and answers", other.formed(0) + other.answer(1) + other.answer(2), 3 * NONE);
        due("1: nor its draft and numbers", other.define('b') + other.ask(1, 0, 'a'), 1);
        due("1: nor is the used one changed", used.guide.inbox() + used.textNow(), "1<a/>");
    }

    // Promise 2

    private static void draft() {
        writeByCode();
        writeUpToForty();
        writeAfterRefusals();
    }

    // "false if its code isn't 32 .. 126"
    private static void writeByCode() {
        for (int code = 0; code <= Character.MAX_VALUE; code++) {
            TagGuide guide = new TagGuide();
            due("2: code " + code, guide.write((char) code), isWritable(code));
            boolean isModel = !isWritable(code) || isName(code) || code == '#';
            due("2: the draft of code " + code, guide.define('a'), isModel ? 0 : NONE);
        }
    }

    // "or 40 are there"
    private static void writeUpToForty() {
        Probe p = new Probe();
        for (int i = 0; i < 40; i++) {
            due("2: with " + i + " there", p.guide.write(LONGEST_DRAFT.charAt(i)), true);
        }
        for (int i = 0; i < 3; i++) {
            due("2: with 40 there", p.guide.write(')'), false);
        }
        due("2: what was refused isn't in the draft", p.guide.define('a'), 0);
        for (int i = 0; i < 40; i++) {
            due("2: with " + i + " there again", p.guide.write('#'), true);
        }
        due("2: with 40 there again", p.guide.write('#'), false);
    }

    private static void writeAfterRefusals() {
        Probe p = new Probe();
        for (int i = 0; i < 40; i++) {
            due("2: a wrong code", p.guide.write((char) (i % 32)), false);
            due("2: refused characters take no room", p.guide.write(LONGEST_DRAFT.charAt(i)), true);
        }
        due("2: nor are they in the draft", p.guide.define('a'), 0);
    }

    // Promise 3

    private static void define() {
        defineEmptiesTheDraft();
        defineInPlaceOfTheOldOne();
        defineByElement();
        defineFullOfNames();
        defineFullOfParentheses();
        defineInTheOrderOfItsAnswers();
        defineNoModel();
        defineChangesNothingElse();
    }

    // "(it is empty then, whatever is answered)"
    private static void defineEmptiesTheDraft() {
        String[][] cases = {{"a", "b", "0"}, {"i", "b", "-1"}, {"a", "aaaaaaaaaaa", "-2"}, {"a", "(((((((", "-2"}, {"a", "b,", "-1"}};
        for (String[] c : cases) {
            Probe p = new Probe();
            due("3: " + c[0] + "=" + c[1], "" + p.define(c[0].charAt(0), c[1]), c[2]);
            due("3: the empty model behind it", p.guide.define('h'), 0);
            due("3: it allows the empty row", Probe.names(p.guide.fertile()), "h");
            due("3: there is room for 40 again", p.define('g', LONGEST_DRAFT), 0);
        }
    }

    // "as the model of a name, or of the document, in place of the one it had"
    private static void defineInPlaceOfTheOldOne() {
        for (char name = 'a'; name <= 'h'; name++) {
            Probe p = new Probe().models(name + "=", name + "=" + name, name + "=#");
            due("3: the last model of " + name, p.text("<" + name + ">x</" + name + ">").faultsNow(), "");
            p.models(name + "=" + name);
            due("3: another one of " + name, p.faultsNow() + p.guide.fertile(), "7@0 6@30");
        }
        Probe used = new Probe().models("a=#(b|c)*", "a=", "a=b,c", "b=", "c=").text("<a><b/><c/></a>");
        due("3: a row that the last model allows", used.faultsNow(), "");
        used.erase(0, 3).text("<a><b/>");
        due("3: one that an earlier model allowed", used.faultsNow(), "7@0");
        Probe document = new Probe().models(".=a", ".=#b", ".=#").text("x");
        due("3: the last model of the document", document.faultsNow(), "");
        due("3: another one of the document", document.models(".=").faultsNow(), "6@0");
    }

    // "NONE: element isn't a name or '.'"
    private static void defineByElement() {
        for (int code = 0; code <= Character.MAX_VALUE; code++) {
            TagGuide guide = new TagGuide();
            due("3: element " + code, guide.define((char) code), isName(code) || code == '.' ? 0 : NONE);
            due("3: fertile by element " + code, guide.fertile(), isName(code) ? 1 << code - 'a' : 0);
        }
    }

    // "FULL: the draft has more than 10 names"
    private static void defineFullOfNames() {
        due("3: 10 names", new Probe().define('a', "a,b,c,d,e,f,g,h,a,b"), 0);
        due("3: 11 names", new Probe().define('a', "a,b,c,d,e,f,g,h,a,b,c"), FULL);
        due("3: 10 times one name", new Probe().define('a', "#h|h|h|h|h|h|h|h|h|h"), 0);
        due("3: 11 times one name", new Probe().define('a', "#h|h|h|h|h|h|h|h|h|h|h"), FULL);
        due("3: 10 names and no model", new Probe().define('a', "hhhhhhhhhh"), NONE);
        due("3: 11 names and no model", new Probe().define('a', "hhhhhhhhhhh"), FULL);
        due("3: 40 names", new Probe().define('.', "abcdefgh".repeat(5)), FULL);
        due("3: 40 letters beside the names", new Probe().define('.', "`i`i`i`iA".repeat(4) + "iiii"), NONE);
        due("3: 10 names and such letters", new Probe().define('.', "abcdefghabijkl"), NONE);
    }

    // "or more than 6 opening parentheses"
    private static void defineFullOfParentheses() {
        due("3: 6 within one another", new Probe().define('a', "((((((a))))))"), 0);
        due("3: 7 within one another", new Probe().define('a', "(((((((a)))))))"), FULL);
        due("3: 6 side by side", new Probe().define('a', "(a)|(a)|(a)|(a)|(a)|(a)"), 0);
        due("3: 7 side by side", new Probe().define('a', "(a)|(a)|(a)|(a)|(a)|(a)|(a)"), FULL);
        due("3: 6 and no model", new Probe().define('a', "(((((("), NONE);
        due("3: 7 and no model", new Probe().define('a', "((((((("), FULL);
        due("3: 40", new Probe().define('a', "(".repeat(40)), FULL);
        due("3: 40 closing ones", new Probe().define('a', ")".repeat(40)), NONE);
        due("3: 6 and many closing ones", new Probe().define('a', "((((((a)))))))"), NONE);
        due("3: 6 and 10 names", new Probe().define('a', "((((((a,b),c),d),e),f),g),h,a,b"), 0);
    }

    private static void defineInTheOrderOfItsAnswers() {
        due("3: no name goes before 11 names", new Probe().define('i', "aaaaaaaaaaa"), NONE);
        due("3: no name goes before 7 parentheses", new Probe().define('`', "((((((("), NONE);
        due("3: 11 names go before no model", new Probe().define('h', "aaaaaaaaaaa"), FULL);
    }

    // "NONE: it is no model"
    private static void defineNoModel() {
        for (String draft : new String[] {" ", "i", "##", "a#", "()", "a,", "|a", "a b", "a**", "(a", "a)", "?", "a()"}) {
            due("3: '" + draft + "' of a name", new Probe().define('a', draft), NONE);
            due("3: '" + draft + "' of the document", new Probe().define('.', draft), NONE);
        }
    }

    // "(nothing else changes then)"
    private static void defineChangesNothingElse() {
        String[] wrong = {"a", "a,a,a,a,a,a,a,a,a,a,a", "(((((((a)))))))", "a,a,a,a,a,a,a,a,a,a,", "#a|", "a)", " "};
        Probe p = new Probe().models(".=a", "a=b?", "b=#").text("<a> <b>x</b></a>");
        p.form();
        int waiting = p.guide.ask(0, 3, 'a');
        for (int i = 0; i < wrong.length; i++) {
            due("3: refused " + wrong[i], p.define(i == 0 ? 'k' : "ab.".charAt(i % 3), wrong[i]) < 0, true);
            due("3: the names are fertile as before", p.guide.fertile(), 3);
            due("3: there is no fault as before", p.faultsNow(), "");
            due("3: the inbox is as before", p.guide.inbox() + p.guide.answer(waiting), 1 + WAITS);
        }
        due("3: the text and the form are as before", p.textNow() + p.formNow(), "<a> <b>x</b></a><a>!_<b>x</b>!</a>");
        due("3: the answers are as before", p.guide.answer(1), 18);
        workOff(p, 1);
        due("3: so are the offers", p.guide.answer(waiting), 0);
        due("3: after a good one they are not", p.models("a=b+").offered(3), "b");
    }

    // Promise 4

    private static void insert() {
        insertByPlace();
        insertByThePlacesThen();
        insertByCode();
        insertUpToHundred();
        insertIntoFullInbox();
    }

    // "nothing if the place isn't 0 .. length"
    private static void insertByPlace() {
        for (String text : new String[] {"", "a", "abc"}) {
            int n = text.length();
            for (int place = 0; place <= n; place++) {
                Probe p = new Probe().text(text);
                p.guide.insert(place, 'x');
                due("4: " + place + " of " + n + " is worked off", p.guide.work(), 0);
                due("4: " + place + " of " + n, p.textNow(), text.substring(0, place) + "x" + text.substring(place));
            }
            for (int place : new int[] {LEAST, -100, -1, n + 1, n + 2, 99, 100, 101, MOST}) {
                Probe p = new Probe().text(text);
                due("4: " + place + " of " + n + " is taken in", p.guide.insert(place, 'x'), true);
                due("4: " + place + " of " + n + " is worked off", p.guide.work(), 0);
                due("4: " + place + " of " + n, p.textNow(), text);
            }
        }
    }

    // "before what is at the place then", "0 .. length then"
    private static void insertByThePlacesThen() {
        Probe p = new Probe();
        p.guide.insert(1, 'n');
        p.guide.insert(0, 'a');
        p.guide.insert(1, 'b');
        p.guide.insert(1, 'c');
        p.guide.erase(0, 2);
        p.guide.insert(2, 'n');
        p.guide.insert(1, 'd');
        due("4: nothing before it is worked off", p.guide.length(), 0);
        workOff(p, 7);
        due("4: by the length then", p.textNow(), "bd");
    }

    // "c's code isn't 32 .. 126"
    private static void insertByCode() {
        for (int code = 0; code <= Character.MAX_VALUE; code++) {
            TagGuide guide = new TagGuide();
            due("4: code " + code + " is taken in", guide.insert(0, (char) code), true);
            due("4: code " + code + " is worked off", guide.work(), 0);
            due("4: length by code " + code, guide.length(), isWritable(code) ? 1 : 0);
            due("4: character by code " + code, guide.character(0), isWritable(code) ? code : NONE);
        }
    }

    // "or 100 are there"
    private static void insertUpToHundred() {
        Probe p = new Probe().text("x".repeat(99));
        due("4: 99", p.guide.length(), 99);
        p.guide.insert(99, 'y');
        p.guide.insert(100, 'z');
        p.guide.insert(0, 'z');
        p.guide.insert(99, 'z');
        p.guide.erase(0, 1);
        p.guide.insert(99, 'v');
        p.guide.insert(99, 'w');
        workOff(p, 4);
        due("4: a 100th and no 101st", p.guide.length(), 100);
        due("4: the ends", p.guide.character(0) + " " + p.guide.character(98) + " " + p.guide.character(99), "120 120 121");
        workOff(p, 2);
        due("4: one is gone and another comes in", p.guide.length(), 100);
        due("4: at the end", p.guide.character(98) + " " + p.guide.character(99), "121 118");
        workOff(p, 1);
        due("4: and no 101st", p.guide.length() + " " + p.guide.character(99), "100 118");
    }

    // "False if 12 messages are there."
    private static void insertIntoFullInbox() {
        Probe p = withFullInbox();
        due("4: a 13th", p.guide.insert(0, 'y'), false);
        due("4: a 13th that would do nothing", p.guide.insert(-1, 'y'), false);
        due("4: it isn't there", p.guide.inbox(), 12);
        workOff(p, 1);
        due("4: there is room for one", p.guide.insert(0, 'z'), true);
        due("4: and no more", p.guide.insert(0, 'y'), false);
        workOff(p, 12);
        due("4: what was refused does nothing", p.textNow(), "zxxxxxx");
        due("4: all were worked off", p.guide.work(), NONE);
    }

    // Promise 5

    private static void erase() {
        eraseBelowOne();
        eraseWhatIsThere();
        eraseByTheTextThen();
        eraseFromFullText();
        eraseIntoFullInbox();
    }

    // "nothing if n is below 1"
    private static void eraseBelowOne() {
        for (int n : new int[] {0, -1, -2, -3, -100, LEAST, LEAST + 1}) {
            for (int place : new int[] {0, 1, 2, 3, 4, -1, MOST, LEAST}) {
                Probe p = new Probe().text("abc");
                due("5: it is taken in", p.guide.erase(place, n), true);
                due("5: it is worked off", p.guide.work(), 0);
                due("5: " + n + " from " + place, p.textNow(), "abc");
            }
        }
    }

    // "or they aren't all there"
    private static void eraseWhatIsThere() {
        String text = "abcd";
        for (int place : new int[] {LEAST, -4, -1, 0, 1, 3, 4, 5, 100, MOST}) {
            for (int n : new int[] {1, 2, 3, 4, 5, 100, 101, MOST - 3, MOST}) {
                boolean there = place >= 0 && (long) place + n <= 4;
                Probe p = new Probe().text(text).erase(place, n);
                due("5: " + n + " from " + place, p.textNow(), there ? text.substring(0, place) + text.substring(place + n) : text);
            }
        }
        due("5: from an empty text", new Probe().erase(0, 1).guide.length(), 0);
    }

    // "when it is worked off", "there then"
    private static void eraseByTheTextThen() {
        Probe p = new Probe();
        p.guide.erase(0, 1);
        p.guide.insert(0, 'a');
        p.guide.insert(1, 'b');
        p.guide.insert(2, 'c');
        p.guide.erase(1, 2);
        p.guide.erase(1, 1);
        p.guide.erase(0, 2);
        workOff(p, 4);
        due("5: nothing before it is worked off", p.textNow(), "abc");
        workOff(p, 3);
        due("5: by the text then", p.textNow(), "a");
    }

    private static void eraseFromFullText() {
        Probe p = new Probe().text("a" + "x".repeat(98) + "b");
        due("5: 101 of 100", p.erase(0, 101).guide.length(), 100);
        due("5: 100 from 1", p.erase(1, 100).guide.length(), 100);
        due("5: the last of 100", p.erase(99, 1).guide.length() + " " + p.guide.character(99), "99 -1");
        due("5: all but one", p.erase(1, 98).textNow(), "a");
        due("5: all", p.erase(0, 1).textNow(), "");
        Probe full = new Probe().text("x".repeat(100));
        due("5: 100 of 100", full.erase(0, 100).guide.length(), 0);
    }

    // "False if 12 messages are there."
    private static void eraseIntoFullInbox() {
        Probe p = withFullInbox();
        due("5: a 13th", p.guide.erase(0, 1), false);
        due("5: a 13th that would do nothing", p.guide.erase(0, 0), false);
        due("5: it isn't there", p.guide.inbox(), 12);
        workOff(p, 1);
        due("5: there is room for one", p.guide.erase(0, 2), true);
        due("5: and no more", p.guide.erase(0, 1), false);
        workOff(p, 12);
        due("5: what was refused does nothing", p.textNow(), "xxxx");
        due("5: all were worked off", p.guide.work(), NONE);
    }

    // Promise 6

    private static void ask() {
        askByWhat();
        askIntoFullInbox();
        askNumbers();
    }

    // "NONE: what isn't 0 .. 3"
    private static void askByWhat() {
        for (int what : new int[] {LEAST, -4, -1, 4, 5, 6, 256, MOST}) {
            Probe p = new Probe();
            due("6: what " + what, p.guide.ask(what, 0, 'a'), NONE);
            due("6: nothing came in", p.guide.inbox(), 0);
            due("6: it has no number", p.guide.ask(0, 0, 'a'), 1);
            due("6: what " + what + " and a full inbox", withFullInbox().guide.ask(what, 0, 'a'), NONE);
        }
        for (int what = 0; what <= 3; what++) {
            for (int place : new int[] {LEAST, -1, 0, 1, MOST}) {
                Probe p = new Probe();
                due("6: a wrong place is no wrong request", p.guide.ask(what, place, (char) 0), 1);
                due("6: it is worked off", p.guide.work(), 1);
                boolean something = what == 1 || what == 3 || what == 0 && place == 0;
                due("6: answer to " + what + " at " + place, p.guide.answer(1), something ? 0 : NONE);
            }
        }
    }

    // "FULL: 12 messages are there"
    private static void askIntoFullInbox() {
        for (int what = 0; what <= 3; what++) {
            Probe p = withFullInbox();
            due("6: a 13th", p.guide.ask(what, 0, 'a'), FULL);
            due("6: it isn't there", p.guide.inbox(), 12);
            due("6: nor does it wait", p.guide.answer(7), NONE);
            workOff(p, 1);
            due("6: it had no number", p.guide.ask(what, 0, 'a'), 7);
            due("6: there was room for one", p.guide.ask(what, 0, 'a'), FULL);
        }
    }

    // "which have numbers 1, 2, .. in the order in which they came (also those that were cancelled)"
    private static void askNumbers() {
        Probe p = new Probe();
        for (int i = 1; i <= 36; i++) {
            due("6: number " + i, p.guide.ask(i % 4, 0, 'a'), i);
            p.guide.insert(0, ' ');
            if (i % 3 == 0) {
                due("6: cancelled", p.guide.cancel(i), true);
            } else {
                workOff(p, 1);
            }
            workOff(p, 1);
        }
    }

    // Promise 7

    private static void cancel() {
        cancelWhatIsNotThere();
        cancelAtTheEnds();
        cancelInFullInbox();
        cancelHasNoEffect();
    }

    // "false if it isn't there"
    private static void cancelWhatIsNotThere() {
        Probe p = new Probe();
        p.guide.insert(0, 'x');
        for (int request : new int[] {LEAST, -1, 0, 1, 2, MOST}) {
            due("7: none was asked: " + request, p.guide.cancel(request), false);
        }
        p.guide.ask(1, 0, 'a');
        p.guide.ask(1, 0, 'a');
        p.guide.ask(1, 0, 'a');
        for (int request : new int[] {LEAST, -1, 0, 4, MOST}) {
            due("7: no such request: " + request, p.guide.cancel(request), false);
        }
        due("7: nothing was taken out", p.guide.inbox(), 4);
        workOff(p, 2);
        due("7: it was answered", p.guide.cancel(1), false);
        due("7: its answer stays", p.guide.answer(1), 0);
        due("7: it is there", p.guide.cancel(2), true);
        due("7: it was cancelled", p.guide.cancel(2), false);
        due("7: the other one stays", p.guide.inbox() + p.guide.answer(3), 1 + WAITS);
    }

    private static void cancelAtTheEnds() {
        Probe p = new Probe();
        for (int i = 1; i <= 4; i++) {
            p.guide.ask(1, 0, 'a');
        }
        due("7: the oldest", p.guide.cancel(1), true);
        due("7: the newest", p.guide.cancel(4), true);
        due("7: what is left", p.guide.work() + " " + p.guide.work() + " " + p.guide.work(), "2 3 -1");
        p.guide.ask(1, 0, 'a');
        due("7: the only one", p.guide.cancel(5), true);
        due("7: nothing is left", p.guide.inbox() + p.guide.work(), NONE);
    }

    // "Takes a request out of the inbox" when that is full
    private static void cancelInFullInbox() {
        for (int request = 1; request <= 6; request++) {
            Probe p = withFullInbox();
            due("7: of twelve messages", p.guide.cancel(request), true);
            due("7: eleven are left", p.guide.inbox(), 11);
            due("7: one more has room", p.guide.ask(1, 0, 'a'), 7);
            due("7: two have not", p.guide.ask(1, 0, 'a'), FULL);
            StringBuilder order = new StringBuilder();
            for (int i = 0; i < 12; i++) {
                order.append(p.guide.work());
            }
            due("7: the others stay in order", order.toString(), "010203040506".replace("" + request, "") + "7");
        }
    }

    private static void cancelHasNoEffect() {
        Probe p = new Probe().models(".=a", "a=").text("<a/>");
        p.form();
        p.text(" ");
        int renaming = p.guide.ask(Probe.RENAMING, 1, 'b');
        int form = p.guide.ask(Probe.FORM, 0, 'a');
        p.guide.cancel(renaming);
        p.guide.cancel(form);
        due("7: nothing is to be done", p.guide.work(), NONE);
        due("7: nothing was renamed or formed", p.textNow() + p.formNow(), " <a/><a/>");
        due("7: nothing was answered", p.guide.answer(renaming) + p.guide.answer(form), 2 * NONE);
    }

    // Promise 8

    private static void work() {
        workOnEmptyInbox();
        workWithoutEffect();
    }

    // "NONE if the inbox is empty"
    private static void workOnEmptyInbox() {
        Probe p = new Probe();
        due("8: at first", p.guide.work(), NONE);
        p.guide.insert(0, 'x');
        due("8: a change", p.guide.work(), 0);
        due("8: then nothing", p.guide.work(), NONE);
        p.guide.ask(1, 0, 'a');
        due("8: a request", p.guide.work(), 1);
        due("8: then nothing, twice", p.guide.work() + p.guide.work(), 2 * NONE);
        p.guide.ask(1, 0, 'a');
        p.guide.cancel(2);
        due("8: after cancel", p.guide.work(), NONE);
        Probe full = withFullInbox();
        StringBuilder order = new StringBuilder();
        for (int i = 0; i < 13; i++) {
            order.append(full.guide.work()).append(' ');
        }
        due("8: twelve messages in order, then nothing", order.toString(), "0 1 0 2 0 3 0 4 0 5 0 6 -1 ");
        due("8: the text and the answers stay", full.textNow() + full.guide.answer(6), "xxxxxx0");
    }

    // "0 for a change, else the number of the request", whatever either of them did
    private static void workWithoutEffect() {
        Probe p = new Probe().text("<");
        p.guide.insert(-1, 'x');
        p.guide.erase(7, 7);
        p.guide.ask(0, -1, 'a');
        p.guide.ask(2, 0, 'a');
        p.guide.ask(3, 0, 'a');
        due("8: changes that do nothing", p.guide.work() + " " + p.guide.work(), "0 0");
        due("8: requests that find nothing", p.guide.work() + " " + p.guide.work() + " " + p.guide.work(), "1 2 3");
        due("8: their answers", p.guide.answer(1) + " " + p.guide.answer(2) + " " + p.guide.answer(3), "-1 -1 -1");
        due("8: the text is as it was", p.textNow(), "<");
    }

    // Promise 9

    private static void answer() {
        answerWaits();
        answerWhereThereWasNone();
        answerOfCancelled();
        answerUpToEightLater();
        answerWithOthersBetween();
    }

    // "WAITS if it is in the inbox"
    private static void answerWaits() {
        Probe p = withFullInbox();
        for (int done = 0; done < 12; done++) {
            for (int request = 1; request <= 6; request++) {
                due("9: " + request + " after " + done, p.guide.answer(request), request * 2 <= done ? 0 : WAITS);
            }
            workOff(p, 1);
        }
        due("9: the last", p.guide.answer(6), 0);
    }

    // "NONE also if there was none"
    private static void answerWhereThereWasNone() {
        Probe p = new Probe();
        p.guide.insert(0, 'x');
        for (int request : new int[] {LEAST, -1, 0, 1, 2, MOST}) {
            due("9: before the first: " + request, p.guide.answer(request), NONE);
        }
        workOff(p, 1);
        p.guide.ask(1, 0, 'a');
        workOff(p, 1);
        for (int request : new int[] {LEAST, -1, 0, 2, 8, 9, MOST}) {
            due("9: after the first: " + request, p.guide.answer(request), NONE);
        }
        due("9: the first", p.guide.answer(1), 0);
    }

    // "it was cancelled"
    private static void answerOfCancelled() {
        Probe p = new Probe();
        p.guide.ask(1, 0, 'a');
        p.guide.ask(1, 0, 'a');
        p.guide.cancel(1);
        due("9: cancelled", p.guide.answer(1), NONE);
        due("9: not cancelled", p.guide.answer(2), WAITS);
        workOff(p, 1);
        due("9: still cancelled", p.guide.answer(1), NONE);
        due("9: not cancelled", p.guide.answer(2), 0);
    }

    // "or eight later ones were answered": the rows for answers are gone through several times
    private static void answerUpToEightLater() {
        Probe p = new Probe().models(".=#");
        for (int last = 1; last <= 30; last++) {
            p.guide.insert(0, '<');
            p.guide.ask(1, 0, 'a');
            workOff(p, 2);
            for (int back : new int[] {0, 1, 6, 7, 8, 9}) {
                int request = last - back;
                due("9: " + request + " of " + last, p.guide.answer(request), request >= 1 && back < 8 ? request : NONE);
            }
        }
    }

    // "eight later ones were answered": not those that wait, were cancelled or refused, nor changes
    private static void answerWithOthersBetween() {
        Probe p = new Probe();
        p.guide.ask(1, 0, 'a');
        workOff(p, 1);
        for (int i = 2; i <= 8; i++) {
            p.guide.ask(3, 0, 'a');
            p.guide.insert(0, ' ');
            workOff(p, 2);
        }
        due("9: seven later ones", p.guide.answer(1), 0);
        for (int i = 9; i <= 18; i++) {
            p.guide.ask(1, 0, 'a');
            p.guide.cancel(i);
            p.guide.ask(4, 0, 'a');
            p.guide.insert(0, ' ');
        }
        workOff(p, 10);
        for (int i = 0; i < 12; i++) {
            p.guide.ask(0, -1, 'a');
        }
        p.guide.ask(0, -1, 'a');
        due("9: still seven later ones", p.guide.answer(1), 0);
        workOff(p, 1);
        due("9: eight, the last answered with -1", p.guide.answer(1) + " " + p.guide.answer(2) + " " + p.guide.answer(19), "-1 0 -1");
        due("9: the next ones wait", p.guide.answer(20) + " " + p.guide.answer(30) + " " + p.guide.answer(31), "-3 -3 -1");
    }

    // Promises 10, 11: "How many messages are in the inbox.", "The length of the text.", from none to the most
    private static void counts() {
        Probe p = new Probe();
        for (int i = 0; i <= 12; i++) {
            due("10: inbox", p.guide.inbox(), i);
            p.guide.insert(0, 'x');
        }
        due("10: the most", p.guide.inbox(), 12);
        due("11: none is worked off", p.guide.length(), 0);
        for (int i = 1; i <= 13; i++) {
            p.guide.work();
            due("10: inbox", p.guide.inbox(), Math.max(0, 12 - i));
            due("11: length", p.guide.length(), Math.min(12, i));
        }
        p.text("x".repeat(88));
        due("11: the most", p.guide.length(), 100);
        due("11: no more", p.text("xx").guide.length(), 100);
        due("11: one less", p.erase(99, 1).guide.length(), 99);
        due("11: none", p.erase(0, 99).guide.length(), 0);
    }

    // Promise 12: "NONE if there is none"
    private static void character() {
        for (int n : new int[] {0, 1, 2, 99, 100}) {
            Probe p = new Probe().text("x".repeat(n));
            for (int place : new int[] {LEAST, -1, n, n + 1, 100, 101, MOST}) {
                due("12: " + place + " of " + n, p.guide.character(place), NONE);
            }
            for (int place : new int[] {0, n - 1}) {
                due("12: " + place + " of " + n, p.guide.character(place), n > 0 ? (int) 'x' : NONE);
            }
        }
        Probe shorter = new Probe().text(" ~a").erase(1, 2);
        due("12: the least code, and what is gone", shorter.guide.character(0) + " " + shorter.guide.character(1), "32 -1");
        shorter.guide.insert(1, '~');
        due("12: what isn't worked off yet", shorter.guide.character(1), NONE);
        workOff(shorter, 1);
        due("12: the greatest code", shorter.guide.character(1), 126);
    }

    // Promise 13

    private static void element() {
        elementWhereThereIsNone();
        elementByWhat();
        elementOfTheDocument();
        elementEndTag();
        elementsOfFullText();
    }

    // "NONE if there is no such element"
    private static void elementWhereThereIsNone() {
        String[] texts = {"", "x", "<a/>", "<a><b>", "</a>"};
        int[] counts = {0, 0, 1, 2, 0};
        for (int i = 0; i < texts.length; i++) {
            Probe p = new Probe().text(texts[i]);
            for (int n : new int[] {LEAST, -1, counts[i] + 1, counts[i] + 2, 33, 34, 100, MOST}) {
                for (int what = 0; what <= 5; what++) {
                    due("13: " + n + " of " + texts[i], p.guide.element(n, what), NONE);
                }
            }
            due("13: the last of " + texts[i], p.guide.element(counts[i], 0) != NONE, true);
        }
    }

    // "or what isn't 0 .. 5"
    private static void elementByWhat() {
        Probe p = new Probe().text("<a></a>");
        for (int what : new int[] {LEAST, -1, 6, 7, 256, MOST}) {
            due("13: what " + what, p.guide.element(1, what), NONE);
            due("13: what " + what + " of the document", p.guide.element(0, what), NONE);
            due("13: what " + what + " of none", p.guide.element(2, what), NONE);
        }
        due("13: what 0 to 5", p.elementNow(1), "a 0 0 7 0 1");
    }

    // "'.' for the document", "NONE for the document", "the document: 0"
    private static void elementOfTheDocument() {
        due("13: of an empty text", new Probe().elementNow(0), ". -1 0 0 0 0");
        due("13: of spaces", new Probe().text("  ").elementNow(0), ". -1 0 2 0 0");
        due("13: of a tag", new Probe().text("<a></a>").elementNow(0), ". -1 0 7 1 0");
        due("13: of what isn't closed", new Probe().text(" <a>").elementNow(0), ". -1 0 4 1 0");
        Probe full = new Probe().text("<a/>".repeat(25));
        due("13: of 100 characters", full.elementNow(0), ". -1 0 100 25 0");
        due("13: of one character less", full.erase(99, 1).elementNow(0), ". -1 0 99 24 0");
        due("13: of none any more", full.erase(0, 99).elementNow(0), ". -1 0 0 0 0");
    }

    // "behind its last tag, or where it is closed without one", "an end tag of its own, 1 or 0"
    private static void elementEndTag() {
        due("13: with an end tag", new Probe().text("<a>x</a>y").elementNow(1), "a 0 0 8 0 1");
        due("13: of an empty tag", new Probe().text("<a/>y").elementNow(1), "a 0 0 4 0 0");
        due("13: closed at the end", new Probe().text("<a>xy").elementNow(1), "a 0 0 5 0 0");
        due("13: closed at the end, with nothing in it", new Probe().text("<a>").elementNow(1), "a 0 0 3 0 0");
        due("13: closed before another one's end tag", new Probe().text("<a><b>x</a>y").elementNow(2), "b 1 3 7 0 0");
        due("13: that one", new Probe().text("<a><b>x</a>y").elementNow(1), "a 0 0 11 1 1");
    }

    private static void elementsOfFullText() {
        Probe p = new Probe().text("<a><b><c><d><e><f><g><h></a>".repeat(3) + "<a><b><c><d><e>x");
        due("13: as many elements as a text can have", p.elementNow(29), "e 28 96 100 0 0");
        due("13: no more", p.guide.element(30, 0), NONE);
        due("13: the first", p.elementNow(1), "a 0 0 28 1 1");
        Probe tags = new Probe().text("<a>".repeat(33));
        due("13: of 33 tags eight are elements", tags.elementNow(8) + " " + tags.guide.element(9, 0), "a 7 21 99 0 0 -1");
    }

    // Promise 14

    private static void fault() {
        faultWhereThereIsNone();
        faultByWhat();
        faultsOfFullText();
    }

    // "NONE if there is none"
    private static void faultWhereThereIsNone() {
        String[] texts = {"", "x", "<", "<<", "<<<"};
        for (int i = 0; i < texts.length; i++) {
            int count = Math.max(0, i - 1);
            Probe p = new Probe().text(texts[i]);
            for (int k : new int[] {LEAST, -1, count, count + 1, 100, 201, 202, MOST}) {
                due("14: " + k + " of " + texts[i], p.guide.fault(k, 0) + p.guide.fault(k, 1), 2 * NONE);
            }
            due("14: how many", p.answerTo(Probe.FAULTS, 0, 'a'), count);
            due("14: the last one's kind", p.guide.fault(count - 1, 0), count > 0 ? 1 : NONE);
            due("14: the last one's place", p.guide.fault(count - 1, 1), count - 1);
            p.erase(0, i > 0 ? texts[i].length() : 0);
            due("14: none is left", p.guide.fault(0, 0), NONE);
        }
    }

    // "or what isn't 0 or 1"
    private static void faultByWhat() {
        Probe p = new Probe().text("x<");
        for (int what : new int[] {LEAST, -1, 2, 3, 256, MOST}) {
            due("14: what " + what, p.guide.fault(0, what), NONE);
            due("14: what " + what + " of none", p.guide.fault(1, what), NONE);
        }
        due("14: what 0 and 1", p.guide.fault(0, 0) + " " + p.guide.fault(0, 1), "1 1");
    }

    private static void faultsOfFullText() {
        Probe p = new Probe().models(".=a").text("<".repeat(100));
        due("14: a fault at each place and two of the document", p.answerTo(Probe.FAULTS, 0, 'a'), 102);
        String first = p.guide.fault(0, 0) + " " + p.guide.fault(1, 0) + " " + p.guide.fault(2, 0) + " " + p.guide.fault(3, 0);
        due("14: the first ones", first, "1 6 7 1");
        due("14: the last one", p.guide.fault(101, 0) + " " + p.guide.fault(101, 1), "1 99");
        due("14: no more", p.guide.fault(102, 0) + " " + p.guide.fault(102, 1), "-1 -1");
    }

    // Promise 15: "Which names are fertile, as bits.", from none to all
    private static void fertile() {
        Probe p = new Probe();
        int bits = 0;
        for (char name = 'a'; name <= 'h'; name++) {
            due("15: the names before " + name, p.guide.fertile(), bits);
            p.models(name + "=");
            bits |= 1 << name - 'a';
        }
        due("15: all", p.guide.fertile(), 255);
        due("15: the document is none", p.models(".=").guide.fertile(), 255);
        due("15: one that needs itself", p.models("h=h").guide.fertile(), 127);
        due("15: one that needs that one", p.models("a=h").guide.fertile(), 126);
    }

    // Promise 16

    private static void formed() {
        formedWhereThereIsNone();
        formedIsLeft();
        formedShorter();
        formedLongest();
    }

    // "NONE if there is none"
    private static void formedWhereThereIsNone() {
        Probe p = new Probe();
        for (int k : new int[] {LEAST, -1, 0, 1, MOST}) {
            due("16: before the first form: " + k, p.guide.formed(k), NONE);
        }
        p.text("<");
        due("16: -1 and none before it", p.form() + p.guide.formed(0), 2 * NONE);
        p.erase(0, 1).text(" a");
        p.form();
        for (int k : new int[] {LEAST, -1, 2, 3, 99, 100, 694, MOST}) {
            due("16: beside the form: " + k, p.guide.formed(k), NONE);
        }
        due("16: the form", p.guide.formed(0) + " " + p.guide.formed(1), "32 97");
    }

    // "whatever the text is now; a -1 leaves the one before"
    private static void formedIsLeft() {
        Probe p = new Probe().text("ab");
        p.form();
        p.text("x");
        due("16: whatever the text is now", p.formNow(), "ab");
        p.text("<");
        due("16: -1", p.form(), NONE);
        due("16: it leaves the one before", p.formNow(), "ab");
        p.erase(0, 4);
        due("16: whatever the text is now", p.formNow(), "ab");
        p.models(".=a");
        due("16: whatever the models are now", p.formNow(), "ab");
        p.guide.ask(Probe.FORM, 0, 'a');
        due("16: while the next one waits", p.formNow(), "ab");
        p.guide.cancel(3);
        due("16: when that is cancelled", p.formNow(), "ab");
    }

    private static void formedShorter() {
        Probe p = new Probe().text("abcd");
        p.form();
        p.erase(1, 2);
        due("16: a shorter one", p.form() + p.formNow() + p.guide.formed(2) + p.guide.formed(3), "2ad-1-1");
        p.erase(0, 2);
        due("16: an empty one", p.form() + p.formNow() + p.guide.formed(0), "0-1");
    }

    private static void formedLongest() {
        Probe p = new Probe().models(".=a", "a=a*").text("<a>".repeat(7) + "<a/>".repeat(12) + "</a>".repeat(7));
        due("16: a long one", p.form(), 97 + (2 + 3 + 4 + 5 + 6 + 7) + 12 * 8 + 28);
        due("16: its last character", (char) p.guide.formed(247), '>');
        due("16: behind it", p.guide.formed(248), NONE);
        due("16: the deepest line", p.guide.formed(48) + " " + p.guide.formed(49) + " " + p.guide.formed(55) + " " + p.guide.formed(56), "10 32 32 60");
    }

    // "An object is used for at most 512 calls after it has been made"
    private static void lastOfManyCalls() {
        TagGuide guide = new TagGuide();
        for (int i = 1; i <= 102; i++) {
            due("6: request " + i, guide.ask(1, 0, 'a'), i);
            due("4: behind request " + i, guide.insert(0, '<'), true);
            due("8: request " + i, guide.work(), i);
            due("8: behind request " + i, guide.work(), 0);
            due("9: request " + i, guide.answer(i), Math.min(100, i - 1));
        }
        due("11: the 511th call", guide.length(), 100);
        due("6: the 512th call", guide.ask(1, 0, 'a'), 103);
    }
}
