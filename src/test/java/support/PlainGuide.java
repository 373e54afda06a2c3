import java.util.ArrayDeque;
import java.util.ArrayList;
import java.util.Deque;
import java.util.HashMap;
import java.util.List;
import java.util.Map;
import java.util.regex.Matcher;
import java.util.regex.Pattern;

/**
 * The document once more, by other means than the program's: strings, lists and regular expressions, all made
 * anew at every look. Random runs are held against it.
 */
final class PlainGuide {
    private static final Pattern TAG = Pattern.compile("<([a-h])>|<([a-h])/>|</([a-h])>");
    private static final String ITEMS = "x[?*+]?([,|]x[?*+]?)*";

    static final class Node {
        char name;
        Node parent;
        int number;
        int begin;
        int inFrom;
        int inTo;
        int behind;
        boolean empty;
        boolean endTag;
        int ink = -1;
        List<Node> children = new ArrayList<>();
        List<int[]> tags = new ArrayList<>();

        int depth() {
            return parent == null ? 0 : parent.depth() + 1;
        }
    }

    private static final class Message {
        int number;
        String kind;
        int place;
        int extra;
    }

    private final Map<Character, String> models = new HashMap<>();
    private final StringBuilder draft = new StringBuilder();
    private final StringBuilder text = new StringBuilder();
    private final Deque<Message> inbox = new ArrayDeque<>();
    private final List<int[]> answered = new ArrayList<>();
    private int requests = 0;
    private String form = "";

    private final List<Node> nodes = new ArrayList<>();
    private final List<int[]> allTags = new ArrayList<>();
    private final List<int[]> faults = new ArrayList<>();

    boolean write(char c) {
        boolean taken = c >= 32 && c <= 126 && draft.length() < 40;
        if (taken) {
            draft.append(c);
        }
        return taken;
    }

    int define(char element) {
        String model = draft.toString();
        draft.setLength(0);
        if (!(element + "").matches("[a-h.]")) {
            return -1;
        }
        if (model.replaceAll("[^a-h]", "").length() > 10 || model.replaceAll("[^(]", "").length() > 6) {
            return -2;
        }
        if (!isModel(model)) {
            return -1;
        }
        models.put(element, model);
        return 0;
    }

    boolean insert(int place, char c) {
        return put("insert", 0, place, c);
    }

    boolean erase(int place, int n) {
        return put("erase", 0, place, n);
    }

    int ask(int what, int place, char c) {
        if (what < 0 || what > 3) {
            return -1;
        }
        if (!put("offer faults rename form".split(" ")[what], requests + 1, place, c)) {
            return -2;
        }
        return ++requests;
    }

    boolean cancel(int request) {
        return request != 0 && inbox.removeIf(m -> m.number == request);
    }

    int work() {
        Message m = inbox.poll();
        if (m == null) {
            return -1;
        }
        switch (m.kind) {
            case "insert":
                if (m.place >= 0 && m.place <= text.length() && m.extra >= 32 && m.extra <= 126 && text.length() < 100) {
                    text.insert(m.place, (char) m.extra);
                }
                break;
            case "erase":
                if (m.place >= 0 && m.extra >= 1 && (long) m.place + m.extra <= text.length()) {
                    text.delete(m.place, m.place + m.extra);
                }
                break;
            case "offer":
                answered.add(new int[] {m.number, offer(m.place)});
                break;
            case "faults":
                read();
                answered.add(new int[] {m.number, faults.size()});
                break;
            case "rename":
                answered.add(new int[] {m.number, rename(m.place, (char) m.extra)});
                break;
            default:
                answered.add(new int[] {m.number, formAnew()});
        }
        return m.number;
    }

    int answer(int request) {
        if (request > 0 && inbox.stream().anyMatch(m -> m.number == request)) {
            return -3;
        }
        for (int i = Math.max(0, answered.size() - 8); i < answered.size(); i++) {
            if (answered.get(i)[0] == request) {
                return answered.get(i)[1];
            }
        }
        return -1;
    }

    int inbox() {
        return inbox.size();
    }

    int length() {
        return text.length();
    }

    int character(int place) {
        return place >= 0 && place < text.length() ? text.charAt(place) : -1;
    }

    int element(int n, int what) {
        read();
        if (n < 0 || n >= nodes.size() || what < 0 || what > 5) {
            return -1;
        }
        Node node = nodes.get(n);
        int parent = node.parent == null ? -1 : node.parent.number;
        return new int[] {node.name, parent, node.begin, node.behind, node.children.size(), node.endTag ? 1 : 0}[what];
    }

    int fault(int k, int what) {
        read();
        return k < 0 || k >= faults.size() || what < 0 || what > 1 ? -1 : faults.get(k)[what];
    }

    int fertile() {
        int bits = 0;
        for (int round = 0; round < 9; round++) {
            for (char name = 'a'; name <= 'h'; name++) {
                String model = models.get(name);
                // With one state that every fertile name leads back to, a model tells whether it has such a row.
                if (model != null && new Ways(model, loop(bits)).all[0][0]) {
                    bits |= 1 << name - 'a';
                }
            }
        }
        return bits;
    }

    int formed(int k) {
        return k >= 0 && k < form.length() ? form.charAt(k) : -1;
    }

    String textNow() {
        return text.toString();
    }

    private boolean put(String kind, int number, int place, int extra) {
        if (inbox.size() == 12) {
            return false;
        }
        Message m = new Message();
        m.kind = kind;
        m.number = number;
        m.place = place;
        m.extra = extra;
        return inbox.add(m);
    }

    private static boolean isModel(String model) {
        String rest = model.startsWith("#") ? model.substring(1) : model;
        if (rest.contains("x")) {
            return false;
        }
        rest = rest.replaceAll("[a-h]", "x");
        for (int i = 0; i < 7; i++) {
            rest = rest.replaceAll("\\(" + ITEMS + "\\)", "x");
        }
        return rest.isEmpty() || rest.matches(ITEMS);
    }

    private static boolean allows(String model, String row) {
        return row.matches(model.replace("#", "").replace(",", ""));
    }

    private void read() {
        nodes.clear();
        allTags.clear();
        faults.clear();
        Node document = new Node();
        document.name = '.';
        document.inTo = text.length();
        document.behind = text.length();
        nodes.add(document);
        Node open = document;
        Matcher tags = TAG.matcher(text);
        int place = 0;
        while (place < text.length()) {
            tags.region(place, text.length());
            if (!tags.lookingAt()) {
                if (text.charAt(place) == '<') {
                    faults.add(new int[] {1, place});
                }
                if (text.charAt(place) != ' ' && open.ink < 0) {
                    open.ink = place;
                }
                place++;
                continue;
            }
            int[] tag = {place, tags.end()};
            allTags.add(tag);
            if (tags.group(3) != null) {
                open = readEnd(open, tags.group(3).charAt(0), tag);
            } else {
                open = readBegin(open, tags.group(1), tags.group(2), tag);
            }
            place = tags.end();
        }
        for (; open != document; open = open.parent) {
            open.inTo = text.length();
            open.behind = text.length();
            faults.add(new int[] {4, open.begin});
        }
        judge();
    }

    private Node readBegin(Node open, String started, String emptied, int[] tag) {
        if (open.depth() == 8) {
            faults.add(new int[] {2, tag[0]});
            return open;
        }
        Node node = new Node();
        node.name = (started == null ? emptied : started).charAt(0);
        node.parent = open;
        node.number = nodes.size();
        node.begin = tag[0];
        node.inFrom = tag[1];
        node.empty = emptied != null;
        node.behind = tag[1];
        node.tags.add(tag);
        open.children.add(node);
        nodes.add(node);
        return node.empty ? open : node;
    }

    private Node readEnd(Node open, char name, int[] tag) {
        Node closed = open;
        while (closed != null && closed.name != name) {
            closed = closed.parent;
        }
        if (closed == null) {
            faults.add(new int[] {3, tag[0]});
            return open;
        }
        for (Node inner = open; inner != closed; inner = inner.parent) {
            inner.inTo = tag[0];
            inner.behind = tag[0];
            faults.add(new int[] {4, inner.begin});
        }
        closed.inTo = tag[0];
        closed.behind = tag[1];
        closed.endTag = true;
        closed.tags.add(tag);
        return closed.parent;
    }

    private void judge() {
        for (Node node : nodes) {
            String model = models.get(node.name);
            if (model == null) {
                if (node.parent != null) {
                    faults.add(new int[] {5, node.begin});
                }
                continue;
            }
            if (!model.startsWith("#") && node.ink >= 0) {
                faults.add(new int[] {6, node.ink});
            }
            if (!allows(model, row(node, 0, 1000))) {
                faults.add(new int[] {7, node.begin});
            }
        }
        faults.sort((a, b) -> a[1] != b[1] ? a[1] - b[1] : a[0] - b[0]);
    }

    private static String row(Node node, int from, int to) {
        StringBuilder row = new StringBuilder();
        for (Node child : node.children) {
            if (child.begin >= from && child.begin < to) {
                row.append(child.name);
            }
        }
        return row.toString();
    }

    private int offer(int place) {
        read();
        if (place < 0 || place > text.length() || allTags.stream().anyMatch(t -> t[0] < place && place < t[1])) {
            return -1;
        }
        Node at = nodes.get(0);
        for (Node node : nodes) {
            if (!node.empty && node.inFrom <= place && place <= node.inTo) {
                at = node;
            }
        }
        String model = models.get(at.name);
        int fertile = fertile();
        int bits = 0;
        for (char name = 'a'; name <= 'h' && model != null; name++) {
            if ((fertile >> name - 'a' & 1) != 0) {
                String before = row(at, 0, place) + name;
                int[][] line = line(before, fertile, row(at, place, 1000));
                bits |= new Ways(model, line).all[0][line.length - 1] ? 1 << name - 'a' : 0;
            }
        }
        return bits;
    }

    /** line[i][j]: which names, as bits, lead from i to j along a row, then any of the loop's, then another row. */
    private static int[][] line(String before, int loop, String behind) {
        String row = before + behind;
        int[][] line = new int[row.length() + 1][row.length() + 1];
        for (int i = 0; i < row.length(); i++) {
            line[i][i + 1] = 1 << row.charAt(i) - 'a';
        }
        line[before.length()][before.length()] |= loop;
        return line;
    }

    private static int[][] loop(int names) {
        return new int[][] {{names}};
    }

    /** Between which states of a line of names a model's rows lead; each piece of the model as a matrix. */
    private static final class Ways {
        private final String model;
        private final int[][] line;
        private int at;
        final boolean[][] all;

        Ways(String model, int[][] line) {
            this.model = model.replace("#", "");
            this.line = line;
            all = this.model.isEmpty() ? same() : expression();
        }

        private boolean[][] expression() {
            boolean[][] ways = sequence();
            while (at < model.length() && model.charAt(at) == '|') {
                at++;
                ways = either(ways, sequence());
            }
            return ways;
        }

        private boolean[][] sequence() {
            boolean[][] ways = item();
            while (at < model.length() && model.charAt(at) == ',') {
                at++;
                ways = both(ways, item());
            }
            return ways;
        }

        private boolean[][] item() {
            boolean[][] ways;
            if (model.charAt(at) == '(') {
                at++;
                ways = expression();
            } else {
                ways = name(model.charAt(at));
            }
            at++;
            char mark = at < model.length() ? model.charAt(at) : ' ';
            if (mark == '?' || mark == '*' || mark == '+') {
                at++;
            }
            if (mark == '*' || mark == '+') {
                for (int i = 0; i < 2 * line.length; i++) {
                    ways = either(ways, both(ways, ways));
                }
            }
            return mark == '?' || mark == '*' ? either(ways, same()) : ways;
        }

        private boolean[][] name(char name) {
            boolean[][] ways = new boolean[line.length][line.length];
            for (int i = 0; i < line.length; i++) {
                for (int j = 0; j < line.length; j++) {
                    ways[i][j] = (line[i][j] >> name - 'a' & 1) != 0;
                }
            }
            return ways;
        }

        private boolean[][] same() {
            boolean[][] ways = new boolean[line.length][line.length];
            for (int i = 0; i < line.length; i++) {
                ways[i][i] = true;
            }
            return ways;
        }

        private boolean[][] either(boolean[][] a, boolean[][] b) {
            boolean[][] ways = new boolean[line.length][line.length];
            for (int i = 0; i < line.length; i++) {
                for (int j = 0; j < line.length; j++) {
                    ways[i][j] = a[i][j] || b[i][j];
                }
            }
            return ways;
        }

        private boolean[][] both(boolean[][] a, boolean[][] b) {
            boolean[][] ways = new boolean[line.length][line.length];
            for (int i = 0; i < line.length; i++) {
                for (int k = 0; k < line.length; k++) {
                    for (int j = 0; a[i][k] && j < line.length; j++) {
                        ways[i][j] |= b[k][j];
                    }
                }
            }
            return ways;
        }
    }

    private int rename(int place, char name) {
        read();
        if (name < 'a' || name > 'h') {
            return -1;
        }
        for (Node node : nodes) {
            if (node.tags.stream().anyMatch(t -> t[0] <= place && place < t[1])) {
                for (int[] tag : node.tags) {
                    String old = text.substring(tag[0], tag[1]);
                    text.replace(tag[0], tag[1], old.replaceAll("[a-h]", name + ""));
                }
                return node.tags.size();
            }
        }
        return -1;
    }

    private int formAnew() {
        read();
        if (faults.stream().anyMatch(f -> f[0] <= 4)) {
            return -1;
        }
        Node document = nodes.get(0);
        if (isLoose(document)) {
            List<String> forms = new ArrayList<>();
            for (Node child : document.children) {
                forms.add(formOf(child));
            }
            form = String.join("\n", forms);
        } else {
            form = text.toString();
        }
        return form.length();
    }

    private boolean isLoose(Node node) {
        String model = models.get(node.name);
        return model != null && !model.startsWith("#") && !node.children.isEmpty() && node.ink < 0;
    }

    private String formOf(Node node) {
        if (!isLoose(node)) {
            return text.substring(node.begin, node.behind);
        }
        StringBuilder all = new StringBuilder().append('<').append(node.name).append('>');
        for (Node child : node.children) {
            all.append('\n').append(" ".repeat(child.depth() - 1)).append(formOf(child));
        }
        return all.append('\n').append(" ".repeat(node.depth() - 1)).append("</").append(node.name).append('>').toString();
    }
}
