/** A TagGuide with short ways to fill it and to look at it, and the count of wrong answers. */
final class Probe {
    static final int OFFER = 0;
    static final int FAULTS = 1;
    static final int RENAMING = 2;
    static final int FORM = 3;

    private static int checks = 0;
    private static int wrong = 0;

    final TagGuide guide = new TagGuide();

    static void due(String what, Object got, Object want) {
        checks++;
        if (!got.equals(want)) {
            wrong++;
            System.out.println(what + ": answered " + got + ", due is " + want);
        }
    }

    static void end() {
        System.out.println(checks + " checks, " + wrong + " wrong");
        if (wrong != 0 || checks == 0) {
            System.exit(1);
        }
    }

    int define(char element, String draft) {
        for (char c : draft.toCharArray()) {
            guide.write(c);
        }
        return guide.define(element);
    }

    /** Defines models written as "a=b,c"; a model may be empty. */
    Probe models(String... lines) {
        for (String line : lines) {
            due("define " + line, define(line.charAt(0), line.substring(2)), 0);
        }
        return this;
    }

    /** Puts a text in front of what is there; the inbox must be empty. */
    Probe text(String text) {
        for (int i = 0; i < text.length(); i++) {
            guide.insert(i, text.charAt(i));
            guide.work();
        }
        return this;
    }

    Probe erase(int place, int n) {
        guide.erase(place, n);
        guide.work();
        return this;
    }

    int answerTo(int what, int place, char c) {
        int request = guide.ask(what, place, c);
        guide.work();
        return guide.answer(request);
    }

    int offer(int place) {
        return answerTo(OFFER, place, 'a');
    }

    /** The names offered, '-' if there is no answer. */
    String offered(int place) {
        return names(offer(place));
    }

    int rename(int place, char name) {
        return answerTo(RENAMING, place, name);
    }

    int form() {
        return answerTo(FORM, 0, 'a');
    }

    String textNow() {
        StringBuilder all = new StringBuilder();
        for (int i = 0; i < guide.length(); i++) {
            all.append((char) guide.character(i));
        }
        return all.toString();
    }

    /** The form with ! for line ends and _ for spaces. */
    String formNow() {
        StringBuilder all = new StringBuilder();
        for (int k = 0; guide.formed(k) != TagGuide.NONE; k++) {
            all.append((char) guide.formed(k));
        }
        return all.toString().replace('\n', '!').replace(' ', '_');
    }

    /** The faults as "kind@place", with spaces between them. */
    String faultsNow() {
        StringBuilder all = new StringBuilder();
        for (int k = 0; guide.fault(k, 0) != TagGuide.NONE; k++) {
            all.append(k == 0 ? "" : " ").append(guide.fault(k, 0)).append('@').append(guide.fault(k, 1));
        }
        return all.toString();
    }

    /** An element as "name parent begin behind children endTag". */
    String elementNow(int n) {
        StringBuilder all = new StringBuilder().append((char) guide.element(n, 0));
        for (int what = 1; what <= 5; what++) {
            all.append(' ').append(guide.element(n, what));
        }
        return all.toString();
    }

    static String names(int bits) {
        if (bits < 0) {
            return "-";
        }
        StringBuilder all = new StringBuilder();
        for (int i = 0; i < 31; i++) {
            if ((bits >> i & 1) != 0) {
                all.append((char) ('a' + i));
            }
        }
        return all.toString();
    }
}
