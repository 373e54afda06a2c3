/** All small drafts and all texts of a few pieces, held against the document as PlainGuide has it. */
public final class SmallCasesTest {
    private static final String DRAFT_SIGNS = "ai#(),|?*";
    private static final int DRAFT_LENGTH = 5;
    private static final String[] PIECES = {"<a>", "</a>", "<b>", "</b>", "<b/>", "x", " ", "<"};
    private static final int TEXT_PIECES = 4;
    private static final String[][] MODELS = {
        {".=a*", "a=(a|b)*,b?", "b="},
        {".=#(a|b)*", "a=b,a?", "b=#a*"},
        {".=a?,b", "b=b+|a"},
    };

    public static void main(String[] args) {
        draftsFrom("");
        for (String[] models : MODELS) {
            // Eight elements can be open, so the last texts begin where one or two more have room.
            for (String before : new String[] {"", "<a>", "<a>".repeat(6), "<a>".repeat(7)}) {
                textsFrom(models, before, before.isEmpty() ? TEXT_PIECES : TEXT_PIECES - 1);
            }
        }
        Probe.end();
    }

    private static void draftsFrom(String draft) {
        PlainGuide plain = new PlainGuide();
        for (char c : draft.toCharArray()) {
            plain.write(c);
        }
        Probe.due("define " + draft, new Probe().define('a', draft), plain.define('a'));
        for (int i = 0; i < DRAFT_SIGNS.length() && draft.length() < DRAFT_LENGTH; i++) {
            draftsFrom(draft + DRAFT_SIGNS.charAt(i));
        }
    }

    private static void textsFrom(String[] models, String text, int pieces) {
        compare(models, text);
        for (int i = 0; i < PIECES.length && pieces > 0; i++) {
            textsFrom(models, text + PIECES[i], pieces - 1);
        }
    }

    private static void compare(String[] models, String text) {
        Probe probe = new Probe().models(models).text(text);
        PlainGuide plain = new PlainGuide();
        for (String model : models) {
            for (char c : model.substring(2).toCharArray()) {
                plain.write(c);
            }
            plain.define(model.charAt(0));
        }
        for (int i = 0; i < text.length(); i++) {
            plain.insert(i, text.charAt(i));
            plain.work();
        }
        compareTrees(probe.guide, plain, text);
        for (int place = 0; place <= text.length(); place++) {
            compareRequests(probe.guide, plain, Probe.OFFER, place, text);
        }
        compareRequests(probe.guide, plain, Probe.FORM, 0, text);
        for (int k = 0; k < 40; k++) {
            Probe.due("formed " + k + " of " + text, probe.guide.formed(k), plain.formed(k));
        }
        compareRequests(probe.guide, plain, Probe.RENAMING, text.length() / 2, text);
        for (int place = 0; place < text.length(); place++) {
            Probe.due("renamed " + place + " of " + text, probe.guide.character(place), plain.character(place));
        }
    }

    private static void compareTrees(TagGuide guide, PlainGuide plain, String text) {
        for (int k = 0; k == 0 || plain.fault(k - 1, 0) != TagGuide.NONE; k++) {
            Probe.due("fault " + k + " of " + text, guide.fault(k, 0), plain.fault(k, 0));
            Probe.due("its place in " + text, guide.fault(k, 1), plain.fault(k, 1));
        }
        for (int n = 0; n == 0 || plain.element(n - 1, 0) != TagGuide.NONE; n++) {
            for (int what = 0; what <= 5; what++) {
                Probe.due("element " + n + ", " + what + " of " + text, guide.element(n, what), plain.element(n, what));
            }
        }
    }

    private static void compareRequests(TagGuide guide, PlainGuide plain, int what, int place, String text) {
        int request = guide.ask(what, place, 'c');
        plain.ask(what, place, 'c');
        guide.work();
        plain.work();
        Probe.due("request " + what + " at " + place + " of " + text, guide.answer(request), plain.answer(request));
    }
}
