import java.util.Random;

/** Random runs of calls, always the same ones, held against the document as PlainGuide has it. */
public final class RandomRunsTest {
    private static final int RUNS = 1500;
    private static final int CALLS = 512;

    private final Random random;
    private final int run;
    private final TagGuide guide = new TagGuide();
    private final PlainGuide plain = new PlainGuide();
    private final StringBuilder trace = new StringBuilder();
    // How far the names go: few names make more matches.
    private final int names;
    private int calls = 0;
    private int requests = 0;

    private RandomRunsTest(int run) {
        this.run = run;
        random = new Random(run);
        names = 1 + random.nextInt(8);
    }

    public static void main(String[] args) {
        for (int run = 0; run < RUNS; run++) {
            new RandomRunsTest(run).go();
        }
        Probe.end();
    }

    private void go() {
        for (int i = random.nextInt(12); i > 0; i--) {
            model();
        }
        while (calls < CALLS) {
            int kind = random.nextInt(100);
            if (kind < 4) {
                model();
            } else if (kind < 16) {
                typeIn(snippet());
            } else if (kind < 20) {
                oneCall("erase", place(), random.nextInt(8) == 0 ? odd() : 1 + random.nextInt(9));
            } else if (kind < 45) {
                oneCall("ask", random.nextInt(40) == 0 ? odd() : random.nextInt(4), place(), random.nextInt(9) == 0 ? oddSign() : name());
            } else if (kind < 48) {
                oneCall("cancel", request());
            } else if (kind < 60) {
                oneCall("work");
            } else {
                look();
            }
        }
    }

    private void model() {
        String draft = random.nextInt(6) == 0 ? brokenModel() : goodModel();
        for (char c : draft.toCharArray()) {
            oneCall("write", c);
        }
        int rows = names + 1;
        int row = random.nextInt(rows);
        oneCall("define", random.nextInt(30) == 0 ? oddSign() : row == names ? '.' : 'a' + row);
    }

    private String goodModel() {
        String head = random.nextInt(3) == 0 ? "#" : "";
        return random.nextInt(5) == 0 ? head : head + expression(2);
    }

    private String expression(int depth) {
        StringBuilder all = new StringBuilder(item(depth));
        for (int i = random.nextInt(4); i > 0; i--) {
            all.append(random.nextBoolean() ? ',' : '|').append(item(depth));
        }
        return all.toString();
    }

    private String item(int depth) {
        String core = depth > 0 && random.nextInt(3) == 0 ? "(" + expression(depth - 1) + ")" : "" + name();
        return core + new String[] {"", "", "?", "*", "+"}[random.nextInt(5)];
    }

    private String brokenModel() {
        StringBuilder draft = new StringBuilder(goodModel());
        int at = random.nextInt(draft.length() + 1);
        if (random.nextBoolean() && at < draft.length()) {
            draft.deleteCharAt(at);
        } else {
            draft.insert(at, "#(),|?*+ i".charAt(random.nextInt(10)));
        }
        return draft.toString();
    }

    private String snippet() {
        char name = name();
        switch (random.nextInt(12)) {
            case 0:
            case 1:
                return "<" + name + ">";
            case 2:
            case 3:
                return "<" + name + "/>";
            case 4:
                return "</" + name + ">";
            case 5:
            case 6:
            case 7:
                return "<" + name + "></" + name + ">";
            case 8:
                return "<" + name + "> <" + name() + "/></" + name + ">";
            case 9:
                return " ";
            case 10:
                return random.nextInt(4) == 0 ? "x" : " ";
            default:
                return random.nextInt(4) == 0 ? "<>/ab".charAt(random.nextInt(5)) + "" : "<" + name + "/>";
        }
    }

    /** Types a snippet at a place, mostly one between tags, so that trees grow. */
    private void typeIn(String snippet) {
        int place = place();
        for (int tries = 0; tries < 9 && random.nextInt(12) > 0 && isWithinTag(place); tries++) {
            place = place();
        }
        for (int i = 0; i < snippet.length(); i++) {
            oneCall("insert", random.nextInt(150) == 0 ? odd() : place + i, random.nextInt(150) == 0 ? oddSign() : snippet.charAt(i));
            if (random.nextInt(20) > 0) {
                drain();
            }
        }
    }

    private boolean isWithinTag(int place) {
        String text = plain.textNow();
        int tag = text.lastIndexOf('<', place - 1);
        return place > 0 && tag >= 0 && text.indexOf('>', tag) >= place;
    }

    private void drain() {
        while (plain.inbox() > 0 && calls < CALLS) {
            oneCall("work");
        }
    }

    private void look() {
        switch (random.nextInt(7)) {
            case 0:
                oneCall("answer", request());
                break;
            case 1:
                oneCall("inbox");
                oneCall("length");
                break;
            case 2:
                oneCall("character", place());
                break;
            case 3:
                oneCall("element", random.nextInt(30) == 0 ? odd() : random.nextInt(12), random.nextInt(7));
                break;
            case 4:
                oneCall("fault", random.nextInt(30) == 0 ? odd() : random.nextInt(9), random.nextInt(20) == 0 ? odd() : random.nextInt(2));
                break;
            case 5:
                oneCall("fertile");
                break;
            default:
                oneCall("formed", random.nextInt(30) == 0 ? odd() : random.nextInt(60));
        }
    }

    private char name() {
        return (char) ('a' + random.nextInt(names));
    }

    private int place() {
        return random.nextInt(40) == 0 ? odd() : random.nextInt(plain.length() + 1);
    }

    private int request() {
        return random.nextInt(20) == 0 ? odd() : Math.max(0, requests - random.nextInt(12));
    }

    private int odd() {
        int[] odds = {-1, 0, 6, 100, 101, -2, Integer.MAX_VALUE, Integer.MIN_VALUE};
        return odds[random.nextInt(odds.length)];
    }

    private char oddSign() {
        char[] odds = {0, 31, 127, 'i', '`', 'A', '.', 65535, ' '};
        return odds[random.nextInt(odds.length)];
    }

    private void oneCall(String name, int... args) {
        if (calls >= CALLS) {
            return;
        }
        calls++;
        trace.setLength(0);
        trace.append("run ").append(run).append(", call ").append(calls).append(": ").append(name);
        for (int arg : args) {
            trace.append(' ').append(arg);
        }
        trace.append(" on ").append(plain.textNow());
        long want = ofPlain(name, args);
        if (name.equals("ask") && want > 0) {
            requests = (int) want;
        }
        Probe.due(trace.toString(), ofGuide(name, args), want);
    }

    private long ofGuide(String name, int[] a) {
        switch (name) {
            case "write": return guide.write((char) a[0]) ? 1 : 0;
            case "define": return guide.define((char) a[0]);
            case "insert": return guide.insert(a[0], (char) a[1]) ? 1 : 0;
            case "erase": return guide.erase(a[0], a[1]) ? 1 : 0;
            case "ask": return guide.ask(a[0], a[1], (char) a[2]);
            case "cancel": return guide.cancel(a[0]) ? 1 : 0;
            case "work": return guide.work();
            case "answer": return guide.answer(a[0]);
            case "inbox": return guide.inbox();
            case "length": return guide.length();
            case "character": return guide.character(a[0]);
            case "element": return guide.element(a[0], a[1]);
            case "fault": return guide.fault(a[0], a[1]);
            case "fertile": return guide.fertile();
            default: return guide.formed(a[0]);
        }
    }

    private long ofPlain(String name, int[] a) {
        switch (name) {
            case "write": return plain.write((char) a[0]) ? 1 : 0;
            case "define": return plain.define((char) a[0]);
            case "insert": return plain.insert(a[0], (char) a[1]) ? 1 : 0;
            case "erase": return plain.erase(a[0], a[1]) ? 1 : 0;
            case "ask": return plain.ask(a[0], a[1], (char) a[2]);
            case "cancel": return plain.cancel(a[0]) ? 1 : 0;
            case "work": return plain.work();
            case "answer": return plain.answer(a[0]);
            case "inbox": return plain.inbox();
            case "length": return plain.length();
            case "character": return plain.character(a[0]);
            case "element": return plain.element(a[0], a[1]);
            case "fault": return plain.fault(a[0], a[1]);
            case "fertile": return plain.fertile();
            default: return plain.formed(a[0]);
        }
    }
}
