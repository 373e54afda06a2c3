/**
 * A server for a text with tags that is being edited: it keeps a tree of the text even while that is
 * faulty, holds it against models, offers names, renames elements and forms the text anew.
 */
public final class TagGuide {
    public static final int NONE = -1;
    public static final int FULL = -2;
    public static final int WAITS = -3;

    private static final int NAMES = 8;
    private static final int DOCUMENT = 0;
    private static final int DRAFT_ROOM = 40;
    private static final int MODEL_NAMES = 10;
    private static final int MODEL_PARENTHESES = 6;
    private static final int TEXT_ROOM = 100;
    private static final int DEPTH_LIMIT = 8;
    private static final int INBOX_ROOM = 12;
    private static final int ANSWERS_KEPT = 8;

    // The shortest tag has three characters, so a full text has no more tags than this.
    private static final int TAG_ROOM = TEXT_ROOM / 3;
    // One fault of kinds 1 to 3 a character, three of the others an element, two of the document.
    private static final int FAULT_ROOM = TEXT_ROOM + 3 * TAG_ROOM + 2;
    // Each element can get two more line ends, each with as many spaces as there are levels.
    private static final int FORM_ROOM = TEXT_ROOM + 2 * TAG_ROOM * (1 + DEPTH_LIMIT);

    // What a message asks for; the first four are those that ask() names.
    private static final int OFFER = 0;
    private static final int FAULT_COUNT = 1;
    private static final int RENAMING = 2;
    private static final int FORM = 3;
    private static final int INSERTION = 4;
    private static final int ERASURE = 5;

    private static final int STRAY_BRACKET = 1;
    private static final int TOO_DEEP = 2;
    private static final int UNMATCHED_END = 3;
    private static final int UNCLOSED = 4;
    private static final int WITHOUT_MODEL = 5;
    private static final int STRAY_CHARACTERS = 6;
    private static final int WRONG_CHILDREN = 7;
    private static final int FAULT_KINDS = 8;

    private static final int NO_TAG = 0;
    private static final int START_TAG = 1;
    private static final int EMPTY_TAG = 2;
    private static final int END_TAG = 3;

    private final Draft draft = new Draft();
    private final ModelReader reader = new ModelReader(draft);
    private final Models models = new Models();
    private final Text text = new Text();
    private final Tree tree = new Tree(text);
    private final Faults faults = new Faults();
    private final Former former = new Former(text, tree, models);
    private final Inbox messages = new Inbox();
    private final Answers answers = new Answers();
    // Most changes are followed by others before anyone looks, so the tree is read when it is needed.
    private boolean stale = true;

    public TagGuide() {
    }

    public boolean write(char c) {
        return draft.append(c);
    }

    public int define(char element) {
        int outcome = NONE;
        if (element == '.' || isName(element)) {
            outcome = draft.isTooLarge() ? FULL : reader.readInto(models.spare);
        }
        if (outcome == 0) {
            models.useSpareFor(element);
            stale = true;
        }
        draft.clear();
        return outcome;
    }

    public boolean insert(int place, char c) {
        return messages.put(INSERTION, 0, place, c);
    }

    public boolean erase(int place, int n) {
        return messages.put(ERASURE, 0, place, n);
    }

    public int ask(int what, int place, char c) {
        if (what < OFFER || what > FORM) {
            return NONE;
        }
        if (messages.isFull()) {
            return FULL;
        }
        return messages.putRequest(what, place, c);
    }

    public boolean cancel(int request) {
        return messages.takeOut(messages.find(request));
    }

    public int work() {
        if (messages.size == 0) {
            return NONE;
        }
        int kind = messages.kinds[0];
        int number = messages.numbers[0];
        int place = messages.places[0];
        int extra = messages.extras[0];
        messages.takeOut(0);
        if (number == 0) {
            change(kind, place, extra);
            return 0;
        }
        refresh();
        answers.keep(number, reply(kind, place, extra));
        return number;
    }

    public int answer(int request) {
        return messages.find(request) == NONE ? answers.of(request) : WAITS;
    }

    public int inbox() {
        return messages.size;
    }

    public int length() {
        return text.size;
    }

    public int character(int place) {
        return text.at(place);
    }

    public int element(int n, int what) {
        refresh();
        return n < DOCUMENT || n > tree.count ? NONE : tree.elements[n].tell(what);
    }

    public int fault(int k, int what) {
        refresh();
        return faults.tell(k, what);
    }

    public int fertile() {
        return models.fertileNames;
    }

    public int formed(int k) {
        return former.at(k);
    }

    private void change(int kind, int place, int extra) {
        if (kind == INSERTION) {
            text.putIn(place, extra);
        } else {
            text.takeOut(place, extra);
        }
        stale = true;
    }

    private int reply(int what, int place, int extra) {
        switch (what) {
            case OFFER:
                return offerAt(place);
            case FAULT_COUNT:
                return faults.size;
            case RENAMING:
                return renameAt(place, extra);
            default:
                return faults.preventForm() ? NONE : former.formAnew();
        }
    }

    private int offerAt(int place) {
        if (place < 0 || place > text.size || tree.isWithinTag(place)) {
            return NONE;
        }
        return models.offer(tree, tree.insideOf(place), place);
    }

    private int renameAt(int place, int name) {
        int owner = tree.ownerOfTagAt(place);
        if (owner == NONE || !isName(name)) {
            return NONE;
        }
        stale = true;
        return tree.renameTags(owner, name);
    }

    private void refresh() {
        if (!stale) {
            return;
        }
        faults.clear();
        tree.read(faults);
        faults.judge(tree, models);
        stale = false;
    }

    private static boolean isName(int code) {
        return code >= 'a' && code < 'a' + NAMES;
    }

    private static boolean isWritable(int code) {
        return code >= 32 && code <= 126;
    }

    /** The characters of the model that is being written. */
    private static final class Draft {
        private final char[] codes = new char[DRAFT_ROOM];
        private int size;

        boolean append(char c) {
            if (!isWritable(c) || size >= DRAFT_ROOM) {
                return false;
            }
            codes[size] = c;
            size++;
            return true;
        }

        void clear() {
            size = 0;
        }

        int at(int place) {
            return place >= 0 && place < size ? codes[place] : NONE;
        }

        boolean isTooLarge() {
            int names = 0;
            int parentheses = 0;
            for (int i = 0; i < size; i++) {
                if (isName(codes[i])) {
                    names++;
                } else if (codes[i] == '(') {
                    parentheses++;
                }
            }
            return names > MODEL_NAMES || parentheses > MODEL_PARENTHESES;
        }
    }

    /**
     * What may stand in an element, as an automaton: it has a state for each name in the model, counted
     * from the left, in which it is when that name was read last, and one more for the start. A set of
     * states is held as bits.
     */
    private static final class Model {
        private static final int START = MODEL_NAMES;

        private boolean present;
        private boolean mixed;
        private int states;
        private final int[] followers = new int[MODEL_NAMES + 1];
        private final int[] statesOfName = new int[NAMES];
        private int accepting;

        void clear() {
            present = false;
            mixed = false;
            states = 0;
            accepting = 0;
            for (int i = 0; i < followers.length; i++) {
                followers[i] = 0;
            }
            for (int i = 0; i < statesOfName.length; i++) {
                statesOfName[i] = 0;
            }
        }

        /** The bit of a new state for the name; 0 if there is no room or it is no name. */
        int addState(int name) {
            if (states >= MODEL_NAMES || !isName(name)) {
                return 0;
            }
            int bit = 1 << states;
            states++;
            statesOfName[name - 'a'] |= bit;
            return bit;
        }

        void join(int from, int to) {
            for (int i = 0; i < followers.length; i++) {
                if ((from >> i & 1) != 0) {
                    followers[i] |= to;
                }
            }
        }

        void complete(int first, int last, boolean skippable) {
            followers[START] = first;
            accepting = skippable ? last | start() : last;
            present = true;
        }

        boolean forbidsCharacters() {
            return present && !mixed;
        }

        int start() {
            return 1 << START;
        }

        boolean accepts(int set) {
            return (set & accepting) != 0;
        }

        int step(int set, int name) {
            return isName(name) ? followersOf(set) & statesOfName[name - 'a'] : 0;
        }

        /** The set and all that can be reached from it by rows of the names whose bits are given. */
        int spread(int set, int names) {
            int usable = 0;
            for (int i = 0; i < NAMES; i++) {
                if ((names >> i & 1) != 0) {
                    usable |= statesOfName[i];
                }
            }
            int reached = set;
            for (int turn = 0; turn <= MODEL_NAMES; turn++) {
                int further = reached | followersOf(reached) & usable;
                if (further == reached) {
                    break;
                }
                reached = further;
            }
            return reached;
        }

        private int followersOf(int set) {
            int all = 0;
            for (int i = 0; i < followers.length; i++) {
                if ((set >> i & 1) != 0) {
                    all |= followers[i];
                }
            }
            return all;
        }
    }

    /** Reads the draft into a model. */
    private static final class ModelReader {
        private final Draft draft;
        private Model model = new Model();
        private int place;
        // Of the piece of the draft that was read last: the states that it can begin and end with.
        private int first;
        private int last;
        private boolean skippable;

        ModelReader(Draft draft) {
            this.draft = draft;
        }

        /** Makes the target the draft's model: 0; NONE, and a target that is of no use, if the draft is none. */
        int readInto(Model target) {
            model = target;
            model.clear();
            place = 0;
            model.mixed = takes('#');
            if (place == draft.size) {
                model.complete(0, 0, true);
                return 0;
            }
            if (!readsExpression(0) || place != draft.size) {
                return NONE;
            }
            model.complete(first, last, skippable);
            return 0;
        }

        private boolean readsExpression(int depth) {
            if (depth > MODEL_PARENTHESES || !readsSequence(depth)) {
                return false;
            }
            for (int turn = 0; turn < DRAFT_ROOM && takes('|'); turn++) {
                int firstBefore = first;
                int lastBefore = last;
                boolean skippableBefore = skippable;
                if (!readsSequence(depth)) {
                    return false;
                }
                first |= firstBefore;
                last |= lastBefore;
                skippable = skippable || skippableBefore;
            }
            return true;
        }

        private boolean readsSequence(int depth) {
            if (!readsItem(depth)) {
                return false;
            }
            for (int turn = 0; turn < DRAFT_ROOM && takes(','); turn++) {
                int firstBefore = first;
                int lastBefore = last;
                boolean skippableBefore = skippable;
                if (!readsItem(depth)) {
                    return false;
                }
                model.join(lastBefore, first);
                first = skippableBefore ? firstBefore | first : firstBefore;
                last = skippable ? lastBefore | last : last;
                skippable = skippable && skippableBefore;
            }
            return true;
        }

        private boolean readsItem(int depth) {
            if (takes('(')) {
                if (!readsExpression(depth + 1) || !takes(')')) {
                    return false;
                }
            } else if (!readsName()) {
                return false;
            }
            readMark();
            return true;
        }

        private boolean readsName() {
            int state = model.addState(draft.at(place));
            if (state == 0) {
                return false;
            }
            place++;
            first = state;
            last = state;
            skippable = false;
            return true;
        }

        private void readMark() {
            if (takes('?')) {
                skippable = true;
            } else if (takes('*')) {
                model.join(last, first);
                skippable = true;
            } else if (takes('+')) {
                model.join(last, first);
            }
        }

        private boolean takes(char c) {
            if (draft.at(place) != c) {
                return false;
            }
            place++;
            return true;
        }
    }

    /** The models of the names and of the document, and which names are fertile by them. */
    private static final class Models {
        private final Model[] inUse = new Model[NAMES + 1];
        // A draft is read into this one, so that a wrong draft leaves the others as they are.
        private Model spare = new Model();
        private int fertileNames;

        Models() {
            for (int i = 0; i < inUse.length; i++) {
                inUse[i] = new Model();
            }
        }

        Model of(int name) {
            return inUse[rowOf(name)];
        }

        void useSpareFor(int name) {
            Model old = inUse[rowOf(name)];
            inUse[rowOf(name)] = spare;
            spare = old;
            findFertileNames();
        }

        boolean allowChildren(Tree tree, int number) {
            Model model = of(tree.elements[number].name);
            return model.accepts(tree.stepChildren(model, model.start(), number, 0, TEXT_ROOM));
        }

        boolean makeLoose(Element element) {
            return of(element.name).forbidsCharacters() && element.children > 0 && element.firstInk == NONE;
        }

        /** The names, as bits, that could be put in at a place of an element's inside. */
        int offer(Tree tree, int number, int place) {
            Model model = of(tree.elements[number].name);
            int before = tree.stepChildren(model, model.start(), number, 0, place);
            int names = 0;
            for (int i = 0; i < NAMES; i++) {
                if ((fertileNames >> i & 1) != 0) {
                    int set = model.spread(model.step(before, 'a' + i), fertileNames);
                    set = tree.stepChildren(model, set, number, place, TEXT_ROOM);
                    names |= model.accepts(set) ? 1 << i : 0;
                }
            }
            return names;
        }

        private static int rowOf(int name) {
            int row = name - 'a';
            return row >= 0 && row < NAMES ? row : NAMES;
        }

        // Each round can show more names to be fertile, and the last name is shown after eight.
        private void findFertileNames() {
            fertileNames = 0;
            for (int round = 0; round < NAMES; round++) {
                int before = fertileNames;
                for (int i = 0; i < NAMES; i++) {
                    Model model = inUse[i];
                    if (model.accepts(model.spread(model.start(), fertileNames))) {
                        fertileNames |= 1 << i;
                    }
                }
                if (fertileNames == before) {
                    break;
                }
            }
        }
    }

    /** The text that is being edited. */
    private static final class Text {
        private final char[] codes = new char[TEXT_ROOM];
        private int size;

        int at(int place) {
            return place >= 0 && place < size ? codes[place] : NONE;
        }

        void putIn(int place, int code) {
            if (place < 0 || place > size || !isWritable(code) || size >= TEXT_ROOM) {
                return;
            }
            System.arraycopy(codes, place, codes, place + 1, size - place);
            codes[place] = (char) code;
            size++;
        }

        void takeOut(int place, int n) {
            if (n < 1 || place < 0 || place >= size || n > size - place) {
                return;
            }
            System.arraycopy(codes, place + n, codes, place, size - place - n);
            size -= n;
        }

        void replace(int place, int code) {
            if (place >= 0 && place < size) {
                codes[place] = (char) code;
            }
        }

        int tagKindAt(int place) {
            if (at(place) != '<') {
                return NO_TAG;
            }
            if (isName(at(place + 1))) {
                if (at(place + 2) == '>') {
                    return START_TAG;
                }
                return at(place + 2) == '/' && at(place + 3) == '>' ? EMPTY_TAG : NO_TAG;
            }
            return at(place + 1) == '/' && isName(at(place + 2)) && at(place + 3) == '>' ? END_TAG : NO_TAG;
        }
    }

    /** An element of the tree, or the document. */
    private static final class Element {
        private int name;
        private int parent;
        private int depth;
        private int begin;
        private int insideFrom;
        private int insideTo;
        private int behind;
        private int children;
        // The kind of the tag that closed it, NO_TAG if none did.
        private int closedBy;
        // The place of the first character of its own that is no space, NONE if it has none.
        private int firstInk;

        void open(int itsName, int itsParent, int itsDepth, int from, int inside) {
            name = itsName;
            parent = itsParent;
            depth = itsDepth;
            begin = from;
            insideFrom = inside;
            children = 0;
            firstInk = NONE;
        }

        void close(int tagKind, int to, int end) {
            closedBy = tagKind;
            insideTo = to;
            behind = end;
        }

        void takeCharacter(int code, int place) {
            if (code != ' ' && firstInk == NONE) {
                firstInk = place;
            }
        }

        boolean hasInside(int place) {
            return closedBy != EMPTY_TAG && insideFrom <= place && place <= insideTo;
        }

        int tell(int what) {
            switch (what) {
                case 0:
                    return name;
                case 1:
                    return parent;
                case 2:
                    return begin;
                case 3:
                    return behind;
                case 4:
                    return children;
                case 5:
                    return closedBy == END_TAG ? 1 : 0;
                default:
                    return NONE;
            }
        }
    }

    /** The elements of the text, in the order in which they begin, and its tags. */
    private static final class Tree {
        private final Text text;
        private final Element[] elements = new Element[TAG_ROOM + 1];
        private int count;
        private int open;
        private final int[] tagFrom = new int[TAG_ROOM];
        private final int[] tagTo = new int[TAG_ROOM];
        // The element that the tag belongs to, NONE if the tag is ignored.
        private final int[] tagOwner = new int[TAG_ROOM];
        private int tags;

        Tree(Text text) {
            this.text = text;
            for (int i = 0; i < elements.length; i++) {
                elements[i] = new Element();
            }
        }

        void read(Faults faults) {
            count = 0;
            tags = 0;
            open = DOCUMENT;
            elements[DOCUMENT].open('.', NONE, 0, 0, 0);
            int place = 0;
            for (int turn = 0; turn < TEXT_ROOM && place < text.size; turn++) {
                place = take(place, faults);
            }
            closeUpTo(DOCUMENT, text.size);
            elements[DOCUMENT].close(NO_TAG, text.size, text.size);
        }

        /** Takes what begins at the place, and tells the place behind it. */
        private int take(int place, Faults faults) {
            switch (text.tagKindAt(place)) {
                case START_TAG:
                    takeStartTag(place, place + 3, faults);
                    return place + 3;
                case EMPTY_TAG:
                    takeEmptyTag(place, place + 4, faults);
                    return place + 4;
                case END_TAG:
                    takeEndTag(place, place + 4, faults);
                    return place + 4;
                default:
                    takeCharacter(place, faults);
                    return place + 1;
            }
        }

        private void takeCharacter(int place, Faults faults) {
            int code = text.at(place);
            elements[open].takeCharacter(code, place);
            if (code == '<') {
                faults.add(STRAY_BRACKET, place);
            }
        }

        private void takeStartTag(int from, int to, Faults faults) {
            if (begins(from, to, faults)) {
                open = count;
            }
        }

        private void takeEmptyTag(int from, int to, Faults faults) {
            if (begins(from, to, faults)) {
                elements[count].close(EMPTY_TAG, to, to);
            }
        }

        /** Whether the tag begins an element, which is the last one then. */
        private boolean begins(int from, int to, Faults faults) {
            Element parent = elements[open];
            if (parent.depth >= DEPTH_LIMIT || count >= TAG_ROOM) {
                addTag(from, to, NONE);
                faults.add(TOO_DEEP, from);
                return false;
            }
            count++;
            parent.children++;
            elements[count].open(text.at(from + 1), open, parent.depth + 1, from, to);
            addTag(from, to, count);
            return true;
        }

        private void takeEndTag(int from, int to, Faults faults) {
            int closed = latestOpenWith(text.at(from + 2));
            if (closed == DOCUMENT) {
                addTag(from, to, NONE);
                faults.add(UNMATCHED_END, from);
                return;
            }
            closeUpTo(closed, from);
            elements[closed].close(END_TAG, from, to);
            open = elements[closed].parent;
            addTag(from, to, closed);
        }

        /** The latest element of the name that isn't closed yet, the document if there is none. */
        private int latestOpenWith(int name) {
            int number = open;
            for (int level = 0; level < DEPTH_LIMIT && number != DOCUMENT; level++) {
                if (elements[number].name == name) {
                    return number;
                }
                number = elements[number].parent;
            }
            return DOCUMENT;
        }

        /** Closes without a tag all that is open within the outer element. */
        private void closeUpTo(int outer, int place) {
            for (int level = 0; level < DEPTH_LIMIT && open != outer; level++) {
                elements[open].close(NO_TAG, place, place);
                open = elements[open].parent;
            }
        }

        private void addTag(int from, int to, int owner) {
            if (tags < TAG_ROOM) {
                tagFrom[tags] = from;
                tagTo[tags] = to;
                tagOwner[tags] = owner;
                tags++;
            }
        }

        boolean isWithinTag(int place) {
            for (int i = 0; i < tags; i++) {
                if (tagFrom[i] < place && place < tagTo[i]) {
                    return true;
                }
            }
            return false;
        }

        int ownerOfTagAt(int place) {
            for (int i = 0; i < tags; i++) {
                if (tagFrom[i] <= place && place < tagTo[i]) {
                    return tagOwner[i];
                }
            }
            return NONE;
        }

        /** Puts the name into the tags of an element, and tells how many they are. */
        int renameTags(int owner, int name) {
            int renamed = 0;
            for (int i = 0; i < tags; i++) {
                if (tagOwner[i] == owner) {
                    int second = tagFrom[i] + 1;
                    text.replace(text.at(second) == '/' ? second + 1 : second, name);
                    renamed++;
                }
            }
            return renamed;
        }

        /** The element begun last of those whose inside has the place. */
        int insideOf(int place) {
            for (int i = count; i > DOCUMENT; i--) {
                if (elements[i].hasInside(place)) {
                    return i;
                }
            }
            return DOCUMENT;
        }

        /** Where a set of a model's states gets by the children that begin from one place to before another. */
        int stepChildren(Model model, int set, int number, int from, int to) {
            int reached = set;
            for (int i = number + 1; i <= count; i++) {
                Element child = elements[i];
                if (child.parent == number && from <= child.begin && child.begin < to) {
                    reached = model.step(reached, child.name);
                }
            }
            return reached;
        }
    }

    /** The faults of the text, in order. */
    private static final class Faults {
        // One number for place and kind, so that the order of the numbers is that of the faults.
        private final int[] keys = new int[FAULT_ROOM];
        private int size;

        void clear() {
            size = 0;
        }

        void add(int kind, int place) {
            if (size >= FAULT_ROOM) {
                return;
            }
            int key = place * FAULT_KINDS + kind;
            int row = size;
            for (; row > 0 && keys[row - 1] > key; row--) {
                keys[row] = keys[row - 1];
            }
            keys[row] = key;
            size++;
        }

        /** Adds the faults that show only when the whole tree is known. */
        void judge(Tree tree, Models models) {
            for (int i = DOCUMENT; i <= tree.count; i++) {
                Element element = tree.elements[i];
                Model model = models.of(element.name);
                if (i != DOCUMENT && element.closedBy == NO_TAG) {
                    add(UNCLOSED, element.begin);
                }
                if (i != DOCUMENT && !model.present) {
                    add(WITHOUT_MODEL, element.begin);
                }
                if (model.forbidsCharacters() && element.firstInk != NONE) {
                    add(STRAY_CHARACTERS, element.firstInk);
                }
                if (model.present && !models.allowChildren(tree, i)) {
                    add(WRONG_CHILDREN, element.begin);
                }
            }
        }

        boolean preventForm() {
            for (int i = 0; i < size; i++) {
                if (keys[i] % FAULT_KINDS <= UNCLOSED) {
                    return true;
                }
            }
            return false;
        }

        int tell(int k, int what) {
            if (k < 0 || k >= size) {
                return NONE;
            }
            switch (what) {
                case 0:
                    return keys[k] % FAULT_KINDS;
                case 1:
                    return keys[k] / FAULT_KINDS;
                default:
                    return NONE;
            }
        }
    }

    /** Forms the text anew, and keeps the form that it made last. */
    private static final class Former {
        private final Text text;
        private final Tree tree;
        private final Models models;
        private final char[] codes = new char[FORM_ROOM];
        private int size;

        Former(Text text, Tree tree, Models models) {
            this.text = text;
            this.tree = tree;
            this.models = models;
        }

        int at(int k) {
            return k >= 0 && k < size ? codes[k] : NONE;
        }

        /** Forms the document, which has no faults of kinds 1 to 4, and tells the form's length. */
        int formAnew() {
            size = 0;
            if (!models.makeLoose(tree.elements[DOCUMENT])) {
                copy(0, text.size);
                return size;
            }
            for (int i = 1; i <= tree.count; i++) {
                if (tree.elements[i].parent == DOCUMENT) {
                    if (size > 0) {
                        startLine(0);
                    }
                    addForm(i, 1);
                }
            }
            return size;
        }

        private void addForm(int number, int depth) {
            Element element = tree.elements[number];
            if (depth > DEPTH_LIMIT || !models.makeLoose(element)) {
                copy(element.begin, element.behind);
                return;
            }
            copy(element.begin, element.insideFrom);
            for (int i = number + 1; i <= tree.count; i++) {
                if (tree.elements[i].parent == number) {
                    startLine(depth);
                    addForm(i, depth + 1);
                }
            }
            startLine(depth - 1);
            copy(element.insideTo, element.behind);
        }

        private void startLine(int spaces) {
            put('\n');
            for (int i = 0; i < spaces; i++) {
                put(' ');
            }
        }

        private void copy(int from, int to) {
            for (int i = from; i < to; i++) {
                put(text.at(i));
            }
        }

        private void put(int code) {
            if (size < FORM_ROOM) {
                codes[size] = (char) code;
                size++;
            }
        }
    }

    /** The messages that wait, the oldest one first. */
    private static final class Inbox {
        private final int[] kinds = new int[INBOX_ROOM];
        // The request's number, 0 for a change.
        private final int[] numbers = new int[INBOX_ROOM];
        private final int[] places = new int[INBOX_ROOM];
        private final int[] extras = new int[INBOX_ROOM];
        private int size;
        private int requests;

        boolean isFull() {
            return size >= INBOX_ROOM;
        }

        boolean put(int kind, int number, int place, int extra) {
            if (isFull()) {
                return false;
            }
            kinds[size] = kind;
            numbers[size] = number;
            places[size] = place;
            extras[size] = extra;
            size++;
            return true;
        }

        /** The new request's number; NONE if the inbox is full. */
        int putRequest(int kind, int place, int extra) {
            if (!put(kind, requests + 1, place, extra)) {
                return NONE;
            }
            requests++;
            return requests;
        }

        /** The row of a request, NONE if it isn't here. */
        int find(int request) {
            // Changes have the number 0, and must not be found by it.
            if (request < 1) {
                return NONE;
            }
            for (int i = 0; i < size; i++) {
                if (numbers[i] == request) {
                    return i;
                }
            }
            return NONE;
        }

        boolean takeOut(int row) {
            if (row < 0 || row >= size) {
                return false;
            }
            size--;
            for (int i = row; i < size; i++) {
                kinds[i] = kinds[i + 1];
                numbers[i] = numbers[i + 1];
                places[i] = places[i + 1];
                extras[i] = extras[i + 1];
            }
            return true;
        }
    }

    /** The answers to the requests that were worked off last. */
    private static final class Answers {
        private final int[] requests = new int[ANSWERS_KEPT];
        private final int[] values = new int[ANSWERS_KEPT];
        private int next;

        void keep(int request, int value) {
            requests[next] = request;
            values[next] = value;
            next = (next + 1) % ANSWERS_KEPT;
        }

        int of(int request) {
            // Rows that aren't used yet have the number 0, which no request has.
            for (int i = 0; request > 0 && i < ANSWERS_KEPT; i++) {
                if (requests[i] == request) {
                    return values[i];
                }
            }
            return NONE;
        }
    }
}
