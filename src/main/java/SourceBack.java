import java.util.Arrays;

/** A back-to-source house; ../shared/DOC.md says what each call answers. */
public final class SourceBack {
    public static final int NONE = -1;

    private static final int FILES = 16;
    private static final int TAPE_MOST = 65536;
    private static final int ENTRIES_MOST = 2000;
    private static final int ENTRIES_MADE = 65535;
    private static final int UNDOS = 8;
    /** Of each file are kept: as it is now and as it was, by edits that can be undone; then what is made of it. */
    private static final int KEPT = UNDOS + 2;
    private static final int SIGNS_MOST = 20000;
    private static final int DEEPEST = 60;
    private static final int PILE_MOST = 60;
    private static final int CODE_MOST = 4000;
    private static final int LOCALS_MOST = 60;
    private static final int PARAMETERS_MOST = 8;
    private static final int KEYS_MOST = 40;
    private static final int MEMBERS_MOST = 100;
    /** A bound for loops that the document bounds only by the length of what is read. */
    private static final int FAR = 1000000;

    private static final int NAME = 1;
    private static final int NUMBER = 2;
    private static final int SIGN = 3;
    private static final int FIELD = 4;
    private static final int MEMBER = 5;

    private static final int KIND_N = 0;
    private static final int KIND_A = 1;
    private static final int KIND_V = 2;

    private static final int EARLIEST_IF = 28;
    private static final int LATEST_IF = 41;
    private static final int JUMP = 42;
    private static final int SWITCH = 43;
    private static final int CALL = 44;
    private static final int GIVE = 45;
    private static final int COME_BACK = 46;
    private static final int FAIL = 47;

    /** Bytes of each act; of a switch those ahead of its keys. */
    private static final byte[] SIZES = {
        1, 2, 3, 1, 2, 2, 3, 3, 3, 1, 1, 1, 1, 1, 1, 1, 1, 1, 1, 1, 1, 1, 1, 1,
        1, 1, 1, 1, 3, 3, 3, 3, 3, 3, 3, 3, 3, 3, 3, 3, 3, 3, 3, 4, 3, 1, 1, 1};
    /** What each act takes, from the top, in digits of base 4: 1 N, 2 A, 3 any; NONE: its entry tells. */
    private static final int[] TAKES = {
        0, 0, 0, 0, 0, 3, 0, 0, NONE, 5, 5, 5, 5, 5, 5, 5, 5, 5, 5, 1, 3, 3, 15, 15,
        1, 9, 37, 2, 5, 5, 5, 5, 5, 5, 1, 1, 1, 1, 1, 1, 2, 2, 0, 1, NONE, 3, 0, 1};
    /** What each act puts: 0 nothing, 1 N, 2 A; NONE: it is worked out. */
    private static final int[] PUTS = {
        0, 1, 1, 2, NONE, 0, 0, NONE, 0, 1, 1, 1, 1, 1, 1, 1, 1, 1, 1, 1, 0, NONE, NONE, NONE,
        2, 1, 0, 1, 0, 0, 0, 0, 0, 0, 0, 0, 0, 0, 0, 0, 0, 0, 0, 0, NONE, 0, 0, 0};
    /** The condition that is so just when another (== != < <= > >=) is not. */
    private static final int[] OPPOSITE = {1, 0, 5, 4, 3, 2};
    /** Ranks of the operators of acts 9 to 18. */
    private static final int[] RANKS = {5, 5, 6, 6, 6, 3, 1, 2, 4, 4};

    private byte[] tape = new byte[256];
    private int tapeLength;
    private final Form[] forms = new Form[FILES];
    private int fileCount;
    /** KEPT for each file; those that are not in use now are filled again. */
    private final Form[] kept = new Form[FILES * KEPT];
    private final int[] undoable = new int[FILES];
    private int begun;
    private final Side[] sides = new Side[2];
    private final Reader reader = new Reader();
    private final Flow flow = new Flow();
    private final Blocks blocks = new Blocks();
    private final Nodes nodes = new Nodes();
    private final Tree tree = new Tree(nodes);
    private final Printer printer = new Printer(nodes);
    private final Maker maker = new Maker();
    private final Judge judge = new Judge(maker);
    /** The member that flow and blocks tell of now. */
    private Form seenForm;
    private int seenMember = NONE;

    public SourceBack() {
        sides[0] = new Side();
        sides[1] = new Side();
    }

    public int feed(long v, int n) {
        if (n < 1 || n > 8 || tapeLength + n > TAPE_MOST) {
            return NONE;
        }
        if (tape.length < tapeLength + n) {
            tape = Arrays.copyOf(tape, 2 * tape.length);
        }
        for (int i = n - 1; i >= 0; i--) {
            tape[tapeLength] = (byte) (v >>> (8 * i));
            tapeLength++;
        }
        return tapeLength;
    }

    public int take() {
        int length = tapeLength;
        tapeLength = 0;
        if (fileCount >= FILES) {
            return -1 - 25;
        }
        Form form = keptAt(fileCount * KEPT);
        form.begin(length);
        System.arraycopy(tape, 0, form.bytes, 0, length);
        int fault = reader.read(form, ENTRIES_MOST);
        seenMember = NONE;
        for (int m = 0; fault == 0 && m < form.members; m++) {
            flow.loadMember(form, m);
            fault = flow.verify();
        }
        if (fault == 0 && fileNamed(form, form.fileName()) >= 0) {
            fault = 24 + 32 * form.nameAt;
        }
        if (fault != 0) {
            return -1 - fault;
        }
        forms[fileCount] = form;
        fileCount++;
        beginAnew();
        return fileCount - 1;
    }

    public int file(int f, int what) {
        Form form = formOf(f);
        if (form == null) {
            return NONE;
        }
        switch (what) {
            case 0: return form.u2(4);
            case 1: return form.entryCount;
            case 2: return form.fields;
            case 3: return form.members;
            case 4: return form.size;
            case 5:
                findTexts(form, 0, form.members);
                findMade(f);
                return form.made == null ? NONE : form.made.size;
            case 6: return undoable[f];
            default: return NONE;
        }
    }

    public int byteAt(int f, int side, int i) {
        Form form = formOf(f);
        if (form == null || side < 0 || side > 1) {
            return NONE;
        }
        if (side == 1) {
            findTexts(form, 0, form.members);
            findMade(f);
            form = form.made;
        }
        if (form == null || i < 0 || i >= form.size) {
            return NONE;
        }
        return form.u1(i);
    }

    public long entry(int f, int k, int what) throws IndexOutOfBoundsException {
        Form form = formOf(f);
        if (form == null || !form.tells(k, what)) {
            throw new IndexOutOfBoundsException("there is none such");
        }
        return form.told(k, what);
    }

    public int member(int f, int m, int what) {
        Form form = formOf(f);
        if (form == null || m < 0 || m >= form.members) {
            return NONE;
        }
        switch (what) {
            case 0: return form.memberEntry(m);
            case 1: return form.locals(m);
            case 2: return form.pile(m);
            case 3: return form.codeLength(m);
            case 4: look(form, m); return flow.acts;
            case 5: look(form, m); return flow.reached();
            case 6: look(form, m); return blocks.count;
            case 7: look(form, m); return blocks.knotted ? 1 : 0;
            case 8:
                findTexts(form, m, m + 1);
                return form.texts[m] == null ? NONE : form.texts[m].length;
            case 9:
                findTexts(form, m, m + 1);
                findAgain(form, m);
                return form.again[m];
            default: return NONE;
        }
    }

    public int act(int f, int m, int i, int what) {
        Form form = formOf(f);
        if (form == null || m < 0 || m >= form.members) {
            return NONE;
        }
        look(form, m);
        if (i < 0 || i >= flow.acts) {
            return NONE;
        }
        switch (what) {
            case 0: return flow.at[i];
            case 1: return flow.op(i);
            case 2: return flow.deep[i] >= 0 ? 1 : 0;
            case 3: return flow.deep[i];
            case 4: return blocks.ofAct(i);
            default: return NONE;
        }
    }

    public int kind(int f, int m, int act, int local) {
        Form form = formOf(f);
        if (form == null || m < 0 || m >= form.members) {
            return NONE;
        }
        look(form, m);
        if (act < 0 || act >= flow.acts || flow.deep[act] < 0) {
            return NONE;
        }
        if (local >= 0) {
            return local < form.locals(m) ? flow.localKind(act, local) : NONE;
        }
        int value = -1 - local;
        return value < flow.deep[act] ? flow.pileKind(act, value) + 1 : NONE;
    }

    public int block(int f, int m, int b, int what) {
        Form form = formOf(f);
        if (form == null || m < 0 || m >= form.members) {
            return NONE;
        }
        look(form, m);
        if (b < 0 || b >= blocks.count) {
            return NONE;
        }
        switch (what) {
            case 0: return flow.at[blocks.firstAct(b)];
            case 1: return blocks.parent(b);
            case 2: return blocks.isHead(b) ? 1 : 0;
            case 3: return blocks.isMet(b) ? 1 : 0;
            case 4: return blocks.ways(b);
            default: return what > 4 && what - 5 < blocks.ways(b) ? blocks.way(b, what - 5) : NONE;
        }
    }

    public int text(int f, int m, int i) {
        Form form = formOf(f);
        if (form == null || m < 0 || m >= form.members) {
            return NONE;
        }
        findTexts(form, m, m + 1);
        byte[] signs = form.texts[m];
        return signs == null || i < 0 || i >= signs.length ? NONE : signs[i] & 255;
    }

    public int judge(int f) {
        int length = tapeLength;
        tapeLength = 0;
        Form form = formOf(f);
        if (form == null) {
            return NONE;
        }
        return judge.read(form, tape, length);
    }

    public int edit(int f, int m) {
        int length = tapeLength;
        tapeLength = 0;
        Form form = formOf(f);
        if (form == null || m < 0 || m >= form.members) {
            return NONE;
        }
        int error = judge.read(form, tape, length);
        if (error == 0 && !judge.declares(form.memberEntry(m))) {
            error = 12 + 16 * judge.firstAt;
        }
        if (error != 0) {
            return error;
        }
        maker.askFound(form);
        maker.askNew(form);
        maker.assemble();
        seenMember = NONE;
        flow.loadMade(form, form.memberSign(m), maker);
        if (flow.verify() != 0 || form.entryCount + maker.entryCount > ENTRIES_MOST) {
            return -2;
        }
        Form edited = nextVersion(f);
        maker.fillEdited(form, m, edited);
        reader.read(edited, ENTRIES_MOST);
        edited.edited = m;
        edited.learn(form, m);
        forms[f] = edited;
        beginAnew();
        return 0;
    }

    public boolean undo(int f) {
        Form undone = formOf(f);
        if (undone == null || undoable[f] == 0) {
            return false;
        }
        undoable[f]--;
        Form earlier = keptAt(f * KEPT + undoable[f]);
        earlier.learn(undone, undone.edited);
        earlier.madeKnown = false;
        earlier.made = null;
        forms[f] = earlier;
        beginAnew();
        return true;
    }

    public int pair(int f, int m, int g) {
        Form form = formOf(f);
        Form other = formOf(g);
        if (form == null || other == null || m < 0 || m >= form.members) {
            return NONE;
        }
        return other.memberLike(form, form.memberEntry(m), false);
    }

    public int alike(int f, int m, int g) {
        Form form = formOf(f);
        Form other = formOf(g);
        if (form == null || other == null || m < 0 || m >= form.members) {
            return NONE;
        }
        int found = other.memberLike(form, form.memberEntry(m), false);
        if (found < 0) {
            return NONE;
        }
        if (form.codeLength(m) == other.codeLength(found)
                && form.sameActs(form.codeAt(m), form.codeLength(m), other, other.bytes, other.codeAt(found))) {
            return 2;
        }
        findTexts(form, m, m + 1);
        findTexts(other, found, found + 1);
        return sameSigns(form.texts[m], other.texts[found]) ? 1 : 0;
    }

    public boolean call(int side, int f, int m, long a, long b) {
        Form form = formOf(f);
        if (form == null || m < 0 || m >= form.members || side < 0 || side > 1) {
            return false;
        }
        Side stepped = sides[side];
        if (stepped.status == Side.RUNS) {
            return false;
        }
        for (int g = 0; g < fileCount; g++) {
            stepped.forms[g] = forms[g];
            if (side == 1) {
                findTexts(forms[g], 0, forms[g].members);
                findMade(g);
                stepped.forms[g] = forms[g].made == null ? forms[g] : forms[g].made;
            }
        }
        begun++;
        stepped.begin(f, m, a, b);
        return true;
    }

    public int steps(int side, int n) throws IllegalArgumentException, IllegalStateException {
        if (side < 0 || side > 1 || n < 1 || n > 4000) {
            throw new IllegalArgumentException("no such side, or not so many steps");
        }
        if (sides[side].status != Side.RUNS) {
            throw new IllegalStateException("no call runs");
        }
        return sides[side].run(n);
    }

    public long state(int side, int what) throws IndexOutOfBoundsException {
        if (side < 0 || side > 1 || what < 0 || what > 8) {
            throw new IndexOutOfBoundsException("there is none such");
        }
        return sides[side].told(what);
    }

    public long field(int side, int f, int i) throws IndexOutOfBoundsException {
        Form form = formOf(f);
        if (side < 0 || side > 1 || form == null || i < 0 || i >= form.fields) {
            throw new IndexOutOfBoundsException("there is none such");
        }
        return sides[side].fieldValue(f, i);
    }

    public long element(int side, int array, int i) throws IndexOutOfBoundsException {
        if (side < 0 || side > 1 || array < 0 || array >= sides[side].arrays
                || i < NONE || i >= sides[side].size(array)) {
            throw new IndexOutOfBoundsException("there is none such");
        }
        return i == NONE ? sides[side].size(array) : sides[side].cell(array, i);
    }

    public void settle() {
        beginAnew();
    }

    public int count(int what) {
        switch (what) {
            case 0: return tapeLength;
            case 1: return fileCount;
            case 2: return sides[0].arrays;
            case 3: return sides[1].arrays;
            case 4: return begun;
            case 5:
                int made = 0;
                for (int f = 0; f < fileCount; f++) {
                    findTexts(forms[f], 0, forms[f].members);
                    findMade(f);
                    made += forms[f].made == null ? 0 : 1;
                }
                return made;
            default: return NONE;
        }
    }

    private Form formOf(int f) {
        return f >= 0 && f < fileCount ? forms[f] : null;
    }

    private int fileNamed(Form form, int name) {
        for (int f = 0; f < fileCount; f++) {
            if (forms[f].sameName(forms[f].fileName(), form, name)) {
                return f;
            }
        }
        return NONE;
    }

    private void beginAnew() {
        sides[0].beginAnew(forms, fileCount);
        sides[1].beginAnew(forms, fileCount);
    }

    private Form keptAt(int place) {
        if (kept[place] == null) {
            kept[place] = new Form();
        }
        return kept[place];
    }

    /** The form for what an edit makes of a file; if no more can be undone, the oldest one is filled again. */
    private Form nextVersion(int f) {
        int from = f * KEPT;
        if (undoable[f] < UNDOS) {
            undoable[f]++;
        } else {
            Form oldest = kept[from];
            for (int i = 1; i <= UNDOS; i++) {
                kept[from + i - 1] = kept[from + i];
            }
            kept[from + UNDOS] = oldest;
        }
        return keptAt(from + undoable[f]);
    }

    private void look(Form form, int m) {
        if (seenForm == form && seenMember == m) {
            return;
        }
        flow.loadMember(form, m);
        flow.verify();
        blocks.find(flow);
        seenForm = form;
        seenMember = m;
    }

    /** Texts are made when they are first asked for; calls stay shallow as all steps begin here. */
    private void findTexts(Form form, int from, int to) {
        for (int m = from; m < to; m++) {
            if (form.textKnown[m] != 0) {
                continue;
            }
            form.textKnown[m] = 1;
            look(form, m);
            if (flow.findsItsEntries() && write(form.memberEntry(m)) && printer.length <= SIGNS_MOST) {
                boolean taken = judge.read(form, printer.out, printer.length) == 0;
                form.texts[m] = taken ? Arrays.copyOf(printer.out, printer.length) : null;
            }
        }
    }

    private void findAgain(Form form, int m) {
        byte[] signs = form.texts[m];
        if (form.againKnown[m] != 0) {
            return;
        }
        form.againKnown[m] = 1;
        form.again[m] = NONE;
        if (signs == null || judge.read(form, signs, signs.length) != 0) {
            return;
        }
        maker.askFound(form);
        maker.assemble();
        if (maker.codeLength == form.codeLength(m)
                && form.sameActs(form.codeAt(m), maker.codeLength, form, maker.code, 0)) {
            form.again[m] = 2;
            return;
        }
        form.again[m] = 0;
        seenMember = NONE;
        flow.loadMade(form, form.memberSign(m), maker);
        if (flow.verify() != 0) {
            return;
        }
        blocks.find(flow);
        if (write(form.memberEntry(m)) && printer.holds(signs)) {
            form.again[m] = 1;
        }
    }

    /** Prints the member that flow and blocks tell of; false if its tree is too deep. */
    private boolean write(int entry) {
        int root = blocks.knotted ? tree.buildKnotted(flow, blocks) : tree.build(flow, blocks);
        if (root == 0) {
            return false;
        }
        nodes.polish(root);
        printer.begin(flow, tree, entry);
        printer.lines(root, 1);
        printer.end();
        return true;
    }

    /** Asks that the texts of all members have been looked for. */
    private void findMade(int f) {
        Form form = forms[f];
        if (form.madeKnown) {
            return;
        }
        form.madeKnown = true;
        for (int m = 0; m < form.members; m++) {
            if (form.texts[m] == null) {
                return;
            }
        }
        seenMember = NONE;
        maker.beginFile(form);
        for (int m = 0; m < form.members; m++) {
            if (judge.read(form, form.texts[m], form.texts[m].length) != 0) {
                return;
            }
            maker.askFound(form);
            maker.assemble();
            flow.loadMade(form, form.memberSign(m), maker);
            if (flow.verify() != 0) {
                return;
            }
            maker.askMade(form);
            maker.assemble();
            maker.addMember(form, m);
        }
        Form made = keptAt(f * KEPT + UNDOS + 1);
        maker.fillMade(form, made);
        reader.read(made, ENTRIES_MADE);
        form.made = made;
    }

    private static boolean sameSigns(byte[] some, byte[] others) {
        if (some == null || others == null || some.length != others.length) {
            return false;
        }
        for (int i = 0; i < some.length; i++) {
            if (some[i] != others[i]) {
                return false;
            }
        }
        return true;
    }

    /** One file: its bytes, where its parts stand in them, and what has been made of it so far. Its rows may be
     * longer than what stands in them, as it is filled again when its file is no longer asked for. */
    private static final class Form {
        byte[] bytes = new byte[0];
        int size;
        int entryCount;
        int[] entryAt = new int[1];
        int nameAt;
        int fields;
        int[] fieldEntry = new int[0];
        int members;
        int[] memberAt = new int[0];
        byte[][] texts = new byte[0][];
        byte[] textKnown = new byte[0];
        byte[] againKnown = new byte[0];
        int[] again = new int[0];
        boolean madeKnown;
        Form made;
        /** The member that the latest edit changed. */
        int edited;

        /** There are now so many bytes, of which nothing is known. */
        void begin(int length) {
            if (bytes.length < length) {
                bytes = new byte[Math.max(length, bytes.length + bytes.length / 2)];
            }
            size = length;
            entryCount = 0;
            nameAt = 0;
            fields = 0;
            members = 0;
            madeKnown = false;
            made = null;
        }

        void setEntries(int n) {
            entryCount = n;
            if (entryAt.length <= n) {
                entryAt = new int[Math.max(n + 1, entryAt.length + entryAt.length / 2)];
            }
        }

        void setFields(int n) {
            fields = n;
            if (fieldEntry.length < n) {
                fieldEntry = new int[n];
            }
        }

        void setMembers(int n) {
            members = n;
            if (memberAt.length < n) {
                memberAt = new int[n];
                texts = new byte[n][];
                textKnown = new byte[n];
                againKnown = new byte[n];
                again = new int[n];
            }
            for (int m = 0; m < n; m++) {
                texts[m] = null;
                textKnown[m] = 0;
                againKnown[m] = 0;
            }
        }

        /** What is known of another version's members but m: neither an edit of m nor undoing it changes their
         * texts, as what is new in the pool comes behind what is found. */
        void learn(Form other, int m) {
            for (int i = 0; i < members && i < other.members; i++) {
                if (i != m) {
                    texts[i] = other.texts[i];
                    textKnown[i] = other.textKnown[i];
                    againKnown[i] = other.againKnown[i];
                    again[i] = other.again[i];
                }
            }
        }

        int u1(int i) {
            return i >= 0 && i < size ? bytes[i] & 255 : 0;
        }

        int u2(int i) {
            return i >= 0 && i + 1 < size ? (bytes[i] & 255) << 8 | bytes[i + 1] & 255 : 0;
        }

        int s4(int i) {
            return u2(i) << 16 | u2(i + 2);
        }

        int place(int k) {
            return k >= 1 && k <= entryCount ? entryAt[k] : NONE;
        }

        int tag(int k) {
            int at = k >= 1 && k <= entryCount ? entryAt[k] : NONE;
            return at >= 0 && at < size ? bytes[at] : 0;
        }

        int owner(int k) {
            return u2(place(k) + 1);
        }

        int nameOf(int k) {
            return u2(place(k) + 3);
        }

        int signOf(int k) {
            return u2(place(k) + 5);
        }

        int fieldKind(int k) {
            return u1(place(k) + 5) == 'A' ? KIND_A : KIND_N;
        }

        /** How many letters a NAME has, how many parameters a SIGN. */
        int length(int k) {
            return u1(place(k) + 1);
        }

        int parameterKind(int k, int i) {
            return u1(place(k) + 2 + i) == 'A' ? KIND_A : KIND_N;
        }

        int result(int k) {
            int at = place(k);
            int c = u1(at + 2 + u1(at + 1));
            return c == 'V' ? KIND_V : c == 'A' ? KIND_A : KIND_N;
        }

        /** A bit for each parameter that is an array. */
        int parameterBits(int k) {
            int bits = 0;
            int at = place(k) + 2;
            for (int i = u1(at - 1) - 1; i >= 0; i--) {
                bits = 2 * bits + (u1(at + i) == 'A' ? 1 : 0);
            }
            return bits;
        }

        long number(int k) {
            long value = 0;
            int at = place(k) + 1;
            for (int i = 0; i < 8; i++) {
                value = value << 8 | u1(at + i);
            }
            return value;
        }

        int fileName() {
            return u2(nameAt);
        }

        int memberEntry(int m) {
            return u2(memberAt[m]);
        }

        int memberSign(int m) {
            return signOf(memberEntry(m));
        }

        int locals(int m) {
            return u1(memberAt[m] + 2);
        }

        int pile(int m) {
            return u1(memberAt[m] + 3);
        }

        int codeLength(int m) {
            return u2(memberAt[m] + 4);
        }

        int codeAt(int m) {
            return memberAt[m] + 6;
        }

        boolean tells(int k, int what) {
            if (what < 0) {
                return false;
            }
            switch (tag(k)) {
                case NAME: return what < 2 || what > 3 && what - 4 < length(k);
                case NUMBER: return what < 2;
                case SIGN: return what < 3 || what > 3 && what - 4 < length(k);
                case FIELD: return what < 4;
                case MEMBER: return what < 4;
                default: return false;
            }
        }

        /** Asks that tells(k, what) has answered true. */
        long told(int k, int what) {
            int tag = tag(k);
            switch (what) {
                case 0: return tag;
                case 1: return tag == NUMBER ? number(k) : tag == NAME || tag == SIGN ? length(k) : owner(k);
                case 2: return tag == SIGN ? result(k) : nameOf(k);
                case 3: return tag == FIELD ? fieldKind(k) : signOf(k);
                default: return tag == SIGN ? parameterKind(k, what - 4) : u1(place(k) + 2 + what - 4);
            }
        }

        boolean sameName(int k, Form other, int j) {
            int n = length(k);
            if (n != other.length(j)) {
                return false;
            }
            int at = place(k) + 2;
            int there = other.place(j) + 2;
            for (int i = 0; i < n; i++) {
                if (u1(at + i) != other.u1(there + i)) {
                    return false;
                }
            }
            return true;
        }

        boolean sameParameters(int k, Form other, int j) {
            return length(k) == other.length(j) && parameterBits(k) == other.parameterBits(j);
        }

        /** Whether two entries, of one form or of two, say the same. */
        boolean sameEntry(int k, Form other, int j) {
            if (tag(k) == 0 || tag(k) != other.tag(j)) {
                return false;
            }
            if (tag(k) == NUMBER) {
                return number(k) == other.number(j);
            }
            if (!sameName(owner(k), other, other.owner(j)) || !sameName(nameOf(k), other, other.nameOf(j))) {
                return false;
            }
            if (tag(k) == FIELD) {
                return fieldKind(k) == other.fieldKind(j);
            }
            return sameParameters(signOf(k), other, other.signOf(j))
                    && result(signOf(k)) == other.result(other.signOf(j));
        }

        /** The code of this form from a place on, and a code that asks another form's pool, act by act. */
        boolean sameActs(int from, int length, Form other, byte[] code, int start) {
            int p = 0;
            for (int n = 0; p < length && n < length; n++) {
                int op = u1(from + p);
                int size = sizeAt(bytes, from + p);
                if (start + p + size > code.length || p + size > length || op != (code[start + p] & 255)) {
                    return false;
                }
                if (op == 2 || op == 7 || op == 8 || op == CALL) {
                    int j = (code[start + p + 1] & 255) << 8 | code[start + p + 2] & 255;
                    if (!sameEntry(u2(from + p + 1), other, j)) {
                        return false;
                    }
                } else {
                    for (int i = 1; i < size; i++) {
                        if (bytes[from + p + i] != code[start + p + i]) {
                            return false;
                        }
                    }
                }
                p += size;
            }
            return true;
        }

        static int sizeAt(byte[] code, int p) {
            int op = p >= 0 && p < code.length ? code[p] & 255 : 0;
            if (op == SWITCH && p + 3 < code.length) {
                return 4 + 6 * (code[p + 3] & 255);
            }
            return op < SIZES.length ? SIZES[op] : 1;
        }

        /** Whether NAME k stands as a whole word at a place of some text with so many signs. */
        boolean sameWord(int k, byte[] words, int signs, int from) {
            if (k < 1 || k > entryCount) {
                return false;
            }
            int at = entryAt[k] + 2;
            int n = at <= size ? bytes[at - 1] & 255 : 0;
            if (from < 0 || from + n > signs || at + n > size) {
                return false;
            }
            for (int i = 0; i < n; i++) {
                if (bytes[at + i] != words[from + i]) {
                    return false;
                }
            }
            int c = from + n < signs ? words[from + n] & 255 : ' ';
            return !(c >= 'a' && c <= 'z' || c >= 'A' && c <= 'Z' || c >= '0' && c <= '9' || c == '_');
        }

        /** The entry of the field with these words for owner and name, 0 without. */
        int findField(byte[] words, int signs, int owner, int name) {
            if (sameWord(fileName(), words, signs, owner)) {
                for (int i = 0; i < fields; i++) {
                    if (sameWord(nameOf(fieldEntry[i]), words, signs, name)) {
                        return fieldEntry[i];
                    }
                }
            }
            for (int k = 1; k <= entryCount; k++) {
                if (tag(k) == FIELD && sameWord(nameOf(k), words, signs, name)
                        && sameWord(owner(k), words, signs, owner)) {
                    return k;
                }
            }
            return 0;
        }

        /** The entry of the member with these words and n parameters of these kinds, 0 without. */
        int findMember(byte[] words, int signs, int owner, int name, int n, int bits) {
            if (sameWord(fileName(), words, signs, owner)) {
                for (int m = 0; m < members; m++) {
                    int k = memberEntry(m);
                    if (hasParameters(signOf(k), n, bits) && sameWord(nameOf(k), words, signs, name)) {
                        return k;
                    }
                }
            }
            for (int k = 1; k <= entryCount; k++) {
                if (tag(k) == MEMBER && hasParameters(signOf(k), n, bits)
                        && sameWord(nameOf(k), words, signs, name) && sameWord(owner(k), words, signs, owner)) {
                    return k;
                }
            }
            return 0;
        }

        boolean hasParameters(int k, int n, int bits) {
            int at = place(k) + 2;
            boolean same = u1(at - 1) == n;
            for (int i = 0; same && i < n; i++) {
                same = (u1(at + i) == 'A' ? 1 : 0) == (bits >> i & 1);
            }
            return same;
        }

        /** This form's own member with the name and parameters (and result) of another form's entry. */
        int memberLike(Form other, int j, boolean withResult) {
            for (int m = 0; m < members; m++) {
                int k = memberEntry(m);
                if (sameName(nameOf(k), other, other.nameOf(j)) && sameParameters(signOf(k), other, other.signOf(j))) {
                    boolean fits = !withResult || result(signOf(k)) == other.result(other.signOf(j));
                    return fits ? m : NONE;
                }
            }
            return NONE;
        }

        /** This form's own field with the name and kind of another form's entry. */
        int fieldLike(Form other, int j) {
            for (int i = 0; i < fields; i++) {
                int k = fieldEntry[i];
                if (sameName(nameOf(k), other, other.nameOf(j)) && fieldKind(k) == other.fieldKind(j)) {
                    return i;
                }
            }
            return NONE;
        }
    }

    /** Reads a file by the rules 1 to 15. */
    private static final class Reader {
        private Form form;
        private int at;
        private int fault;

        /** 0, or the rule + 32 * the place; the form then knows where its parts stand. */
        int read(Form into, int entriesMost) {
            form = into;
            at = 0;
            fault = 0;
            readHead(entriesMost);
            for (int k = 1; fault == 0 && k <= form.entryCount; k++) {
                readEntry(k);
            }
            for (int k = 1; fault == 0 && k <= form.entryCount; k++) {
                checkEntry(k);
            }
            if (fault == 0) {
                readFields();
            }
            int members = bounded(2, 4, 0, MEMBERS_MOST);
            if (fault == 0) {
                form.setMembers(members);
            }
            for (int m = 0; fault == 0 && m < members; m++) {
                form.memberAt[m] = at;
                readMember(m);
            }
            if (fault == 0 && at < form.size) {
                tell(15, at);
            }
            return fault;
        }

        private void tell(int rule, int place) {
            if (fault == 0) {
                fault = rule + 32 * place;
            }
        }

        private int number(int n) {
            if (fault != 0) {
                return 0;
            }
            if (at + n > form.size) {
                tell(1, form.size);
                return 0;
            }
            int value = 0;
            for (int i = 0; i < n; i++) {
                value = value << 8 | form.u1(at);
                at++;
            }
            return value;
        }

        private int bounded(int n, int rule, int least, int most) {
            int place = at;
            int value = number(n);
            if (fault == 0 && (value < least || value > most)) {
                tell(rule, place);
            }
            return value;
        }

        private void readHead(int entriesMost) {
            if (number(4) != 0xB007F11E) {
                tell(2, 0);
            }
            bounded(2, 3, 1, 9);
            int entries = bounded(2, 4, 1, entriesMost);
            if (fault == 0) {
                form.setEntries(entries);
            }
        }

        private void readEntry(int k) {
            int place = at;
            form.entryAt[k] = place;
            switch (number(1)) {
                case NAME:
                    readName();
                    break;
                case NUMBER:
                    number(4);
                    number(4);
                    break;
                case SIGN:
                    readSign();
                    break;
                case FIELD:
                    number(4);
                    readKind(false);
                    break;
                case MEMBER:
                    number(4);
                    number(2);
                    break;
                default:
                    tell(5, place);
                    break;
            }
        }

        private void readName() {
            int n = bounded(1, 6, 1, 30);
            for (int i = 0; fault == 0 && i < n; i++) {
                int place = at;
                int c = number(1);
                boolean letter = c >= 'a' && c <= 'z' || c >= 'A' && c <= 'Z' || c == '_';
                if (!letter && (i == 0 || c < '0' || c > '9')) {
                    tell(6, place);
                }
            }
        }

        private void readSign() {
            int n = bounded(1, 7, 0, PARAMETERS_MOST);
            for (int i = 0; fault == 0 && i < n; i++) {
                readKind(false);
            }
            readKind(true);
        }

        private void readKind(boolean ofResult) {
            int place = at;
            int c = number(1);
            if (c != 'N' && c != 'A' && !(ofResult && c == 'V')) {
                tell(7, place);
            }
        }

        private void checkEntry(int k) {
            int place = form.entryAt[k];
            int tag = form.tag(k);
            if (tag == FIELD || tag == MEMBER) {
                ask(NAME, place + 1, place + 1);
                ask(NAME, place + 3, place + 3);
            }
            if (tag == MEMBER) {
                ask(SIGN, place + 5, place + 5);
            }
        }

        private void ask(int tag, int number, int place) {
            if (form.tag(form.u2(number)) != tag) {
                tell(8, place);
            }
        }

        private int asking(int tag) {
            int place = at;
            int k = number(2);
            if (fault == 0 && form.tag(k) != tag) {
                tell(8, place);
            }
            return k;
        }

        private void readFields() {
            form.nameAt = at;
            asking(NAME);
            int n = bounded(2, 4, 0, MEMBERS_MOST);
            if (fault != 0) {
                return;
            }
            form.setFields(n);
            for (int i = 0; fault == 0 && i < n; i++) {
                int place = at;
                int k = asking(FIELD);
                form.fieldEntry[i] = k;
                if (fault == 0 && !form.sameName(form.owner(k), form, form.fileName())) {
                    tell(9, place);
                }
                for (int j = 0; fault == 0 && j < i; j++) {
                    if (form.sameName(form.nameOf(k), form, form.nameOf(form.fieldEntry[j]))) {
                        tell(10, place);
                    }
                }
            }
        }

        private void readMember(int m) {
            int place = at;
            int k = asking(MEMBER);
            if (fault == 0 && !form.sameName(form.owner(k), form, form.fileName())) {
                tell(9, place);
            }
            for (int i = 0; fault == 0 && i < m; i++) {
                int earlier = form.memberEntry(i);
                if (form.sameName(form.nameOf(k), form, form.nameOf(earlier))
                        && form.sameParameters(form.signOf(k), form, form.signOf(earlier))) {
                    tell(11, place);
                }
            }
            int locals = bounded(1, 4, fault == 0 ? form.length(form.signOf(k)) : 0, LOCALS_MOST);
            bounded(1, 4, 0, PILE_MOST);
            int end = bounded(2, 4, 1, CODE_MOST) + at;
            for (int i = 0; fault == 0 && at < end && i < CODE_MOST; i++) {
                readAct(end, locals);
            }
        }

        private void readAct(int end, int locals) {
            int length = form.size;
            if (at >= length) {
                tell(1, length);
                return;
            }
            int op = form.u1(at);
            if (op >= SIZES.length) {
                tell(12, at);
                return;
            }
            int behind = at + SIZES[op];
            if (op == SWITCH && behind <= end && behind <= length) {
                behind += 6 * form.u1(at + 3);
            }
            if (behind > end && end <= length) {
                tell(12, at);
            } else if (behind > length) {
                tell(1, length);
            } else {
                checkAct(op, locals);
                at = behind;
            }
        }

        private void checkAct(int op, int locals) {
            if (op == 2) {
                ask(NUMBER, at + 1, at);
            } else if (op == 7 || op == 8) {
                ask(FIELD, at + 1, at);
            } else if (op == CALL) {
                ask(MEMBER, at + 1, at);
            } else if (op >= 4 && op <= 6 && form.u1(at + 1) >= locals) {
                tell(13, at);
            } else if (op == SWITCH) {
                int n = form.u1(at + 3);
                if (n > KEYS_MOST) {
                    tell(14, at);
                }
                for (int i = 1; i < n; i++) {
                    if (form.s4(at + 4 + 6 * i) <= form.s4(at - 2 + 6 * i)) {
                        tell(14, at);
                    }
                }
            }
        }
    }

    /** The acts of a member, which of them are reached, and with what locals and pile (rules 16 to 23). */
    private static final class Flow {
        private static final long ODD_BITS = 0x5555555555555555L;

        Form form;
        byte[] code = new byte[0];
        int base;
        int length;
        int locals;
        int most;
        int sign;
        int acts;
        int[] at = new int[1];
        /** The act that begins at a byte of the code, NONE without. */
        int[] index = new int[1];
        /** How many values lie on the pile ahead of an act, NONE if it is not reached. */
        int[] deep = new int[1];
        /** Two bits for each local ahead of an act: those below 32, the others. */
        private long[] low = new long[1];
        private long[] high = new long[1];
        /** A bit for each value of the pile that is an array. */
        private long[] pile = new long[1];
        private long nowLow;
        private long nowHigh;
        private long nowPile;
        private int nowDeep;
        private boolean changed;

        void loadMember(Form from, int m) {
            form = from;
            code = from.bytes;
            base = from.codeAt(m);
            length = from.codeLength(m);
            locals = from.locals(m);
            most = from.pile(m);
            sign = from.memberSign(m);
            scan();
        }

        void loadMade(Form from, int memberSign, Maker maker) {
            form = from;
            code = maker.code;
            base = 0;
            length = maker.codeLength;
            locals = maker.locals;
            most = maker.pile;
            sign = memberSign;
            scan();
        }

        private void scan() {
            if (index.length <= length) {
                int room = Math.max(length + 1, Math.min(2 * index.length, CODE_MOST + 1));
                at = new int[room];
                index = new int[room];
                deep = new int[room];
                low = new long[room];
                high = new long[room];
                pile = new long[room];
            }
            Arrays.fill(index, 0, length + 1, NONE);
            int p = 0;
            for (acts = 0; p < length && acts < length; acts++) {
                index[p] = acts;
                at[acts] = p;
                deep[acts] = NONE;
                p += Form.sizeAt(code, base + p);
            }
        }

        int u1(int i, int offset) {
            int p = base + at[i] + offset;
            return p < code.length ? code[p] & 255 : 0;
        }

        int op(int i) {
            return u1(i, 0);
        }

        int u2(int i, int offset) {
            int p = base + at[i] + offset;
            return p + 1 < code.length ? (code[p] & 255) << 8 | code[p + 1] & 255 : 0;
        }

        int key(int i, int k) {
            return u2(i, 4 + 6 * k) << 16 | u2(i, 6 + 6 * k);
        }

        int keys(int i) {
            return u1(i, 3);
        }

        /** The act to which a jump, or key k of a switch (NONE: its d) goes; NONE if there is none. */
        int end(int i, int k) {
            int p = u2(i, k < 0 ? 1 : 8 + 6 * k);
            return p < length ? index[p] : NONE;
        }

        int reached() {
            int n = 0;
            for (int i = 0; i < acts; i++) {
                n += deep[i] >= 0 ? 1 : 0;
            }
            return n;
        }

        /** 0 UNSET, 1 N, 2 A, 3 BOTH. */
        int localKind(int i, int local) {
            return (int) ((local < 32 ? low[i] : high[i]) >>> 2 * (local & 31)) & 3;
        }

        int pileKind(int i, int value) {
            return (int) (pile[i] >>> value) & 1;
        }

        /** 0, or the rule + 32 * the act's place. */
        int verify() {
            for (int i = 0; i < acts; i++) {
                if (strays(i)) {
                    return 16 + 32 * (base + at[i]);
                }
            }
            begin();
            // Each round but the last reaches an act or makes a local BOTH.
            int rounds = acts * (locals + 1) + 2;
            changed = true;
            for (int round = 0; changed && round < rounds; round++) {
                changed = false;
                for (int i = 0; i < acts; i++) {
                    int rule = deep[i] < 0 ? 0 : follow(i);
                    if (rule != 0) {
                        return rule + 32 * (base + at[i]);
                    }
                }
            }
            return 0;
        }

        private boolean strays(int i) {
            int op = op(i);
            if (op < EARLIEST_IF || op > SWITCH) {
                return false;
            }
            boolean stray = end(i, NONE) < 0;
            for (int k = 0; op == SWITCH && k < keys(i); k++) {
                stray = stray || end(i, k) < 0;
            }
            return stray;
        }

        private void begin() {
            nowLow = 0;
            nowHigh = 0;
            for (int i = 0; i < form.length(sign); i++) {
                setLocal(i, form.parameterKind(sign, i) + 1);
            }
            deep[0] = 0;
            pile[0] = 0;
            low[0] = nowLow;
            high[0] = nowHigh;
        }

        private void setLocal(int local, int kind) {
            int shift = 2 * (local & 31);
            if (local < 32) {
                nowLow = nowLow & ~(3L << shift) | (long) kind << shift;
            } else {
                nowHigh = nowHigh & ~(3L << shift) | (long) kind << shift;
            }
        }

        /** What act i takes, as in TAKES. */
        private int takes(int i, int op) {
            if (op == 8) {
                return form.fieldKind(u2(i, 1)) + 1;
            }
            if (op != CALL) {
                return TAKES[op];
            }
            int taken = 0;
            int called = form.signOf(u2(i, 1));
            for (int p = 0; p < form.length(called); p++) {
                taken = 4 * taken + form.parameterKind(called, p) + 1;
            }
            return taken;
        }

        /** The least rule that reached act i breaks, or 0 and what follows it knows what comes of it. */
        private int follow(int i) {
            nowLow = low[i];
            nowHigh = high[i];
            nowPile = pile[i];
            nowDeep = deep[i];
            int op = op(i);
            int taken = takes(i, op);
            int n = 0;
            boolean kinds = true;
            for (int shift = 0; shift < 16 && taken >>> shift != 0; shift += 2) {
                n++;
                int asked = taken >>> shift & 3;
                int kind = nowDeep < n ? 0 : (int) (nowPile >>> (nowDeep - n)) & 1;
                kinds = kinds && (asked == 3 || asked == kind + 1);
            }
            if (nowDeep < n) {
                return 17;
            }
            if (op == GIVE && form.result(sign) != ((int) (nowPile >>> (nowDeep - 1)) & 1)
                    || op == COME_BACK && form.result(sign) != KIND_V) {
                return 18;
            }
            if (!kinds) {
                return 19;
            }
            int kind = op < 4 || op > 6 ? 0 : localKind(i, u1(i, 1));
            if (op == 4 && kind != 1 && kind != 2 || op == 6 && kind != 1) {
                return 20;
            }
            change(i, op, n);
            if (nowDeep > most) {
                return 21;
            }
            boolean falls = op < JUMP || op == CALL;
            if (falls && i + 1 >= acts) {
                return 22;
            }
            if (op >= EARLIEST_IF && op <= SWITCH && nowDeep > 1) {
                return 23;
            }
            return spread(i, op, falls) ? 0 : 23;
        }

        private void change(int i, int op, int taken) {
            int top = nowDeep < 1 ? 0 : (int) (nowPile >>> (nowDeep - 1)) & 1;
            int under = nowDeep < 2 ? 0 : (int) (nowPile >>> (nowDeep - 2)) & 1;
            nowDeep -= taken;
            nowPile &= (1L << nowDeep) - 1;
            switch (op) {
                case 4:
                    push(localKind(i, u1(i, 1)) - 1);
                    break;
                case 5:
                    setLocal(u1(i, 1), top + 1);
                    break;
                case 7:
                    push(form.fieldKind(u2(i, 1)));
                    break;
                case 21:
                    push(top);
                    push(top);
                    break;
                case 22:
                    push(top);
                    push(under);
                    break;
                case 23:
                    push(top);
                    push(under);
                    push(top);
                    break;
                case CALL:
                    int result = form.result(form.signOf(u2(i, 1)));
                    if (result != KIND_V) {
                        push(result);
                    }
                    break;
                default:
                    if (PUTS[op] > 0) {
                        push(PUTS[op] - 1);
                    }
                    break;
            }
        }

        private void push(int kind) {
            nowPile |= (long) kind << nowDeep;
            nowDeep++;
        }

        private boolean spread(int i, int op, boolean falls) {
            boolean alike = true;
            if (op >= EARLIEST_IF && op <= SWITCH) {
                alike = reach(end(i, NONE));
            }
            for (int k = 0; op == SWITCH && k < keys(i); k++) {
                alike = alike && reach(end(i, k));
            }
            return alike && (!falls || reach(i + 1));
        }

        private boolean reach(int i) {
            if (deep[i] < 0) {
                deep[i] = nowDeep;
                pile[i] = nowPile;
                low[i] = nowLow;
                high[i] = nowHigh;
                changed = true;
                return true;
            }
            if (deep[i] != nowDeep || pile[i] != nowPile) {
                return false;
            }
            long mixedLow = mixed(low[i], nowLow);
            long mixedHigh = mixed(high[i], nowHigh);
            if (mixedLow != low[i] || mixedHigh != high[i]) {
                low[i] = mixedLow;
                high[i] = mixedHigh;
                changed = true;
            }
            return true;
        }

        /** Each pair of bits that is another one becomes BOTH. */
        private static long mixed(long was, long comes) {
            long other = was ^ comes;
            long mark = (other | other >>> 1) & ODD_BITS;
            return was | mark | mark << 1;
        }

        /** Whether the judge would find, for each reached F.f and M.m, one of that kind or sign. */
        boolean findsItsEntries() {
            for (int i = 0; i < acts; i++) {
                int op = op(i);
                if (deep[i] < 0 || op != 7 && op != 8 && op != CALL) {
                    continue;
                }
                int k = u2(i, 1);
                int owner = form.place(form.owner(k)) + 2;
                int name = form.place(form.nameOf(k)) + 2;
                if (op == CALL) {
                    int signed = form.signOf(k);
                    int bits = form.parameterBits(signed);
                    int found = form.findMember(form.bytes, form.size, owner, name, form.length(signed), bits);
                    if (form.result(form.signOf(found)) != form.result(signed)) {
                        return false;
                    }
                } else if (form.fieldKind(form.findField(form.bytes, form.size, owner, name)) != form.fieldKind(k)) {
                    return false;
                }
            }
            return true;
        }
    }

    /** The blocks of a member whose flow breaks no rule. */
    private static final class Blocks {
        private static final int HEAD = 1;
        private static final int ENTERED = 2;
        private static final int MET = 4;

        int count;
        boolean knotted;
        private Flow flow;
        /** Of acts: whether a block begins there; the block (as they stand in the code). */
        private int[] begins = new int[1];
        private int[] holder = new int[1];
        /** Of blocks as they stand in the code: first and last act, where their ways begin, their number. */
        private int[] first = new int[1];
        private int[] last = new int[1];
        private int[] from = new int[2];
        private int[] numberOf = new int[1];
        private int[] nextWay = new int[1];
        private int[] ends = new int[1];
        private int endCount;
        /** Of blocks by order: how they stand in the code, parent, HEAD and MET. */
        private int[] standing = new int[1];
        private int[] parents = new int[1];
        private int[] marks = new int[1];
        private int[] stack = new int[1];

        void find(Flow verified) {
            flow = verified;
            makeRoom(flow.length + 2);
            markBeginnings();
            gather();
            endCount = 0;
            for (int b = 0; b < count; b++) {
                from[b] = endCount;
                link(last[b]);
            }
            from[count] = endCount;
            arrange();
            findParents();
            findMarks();
        }

        private void makeRoom(int needed) {
            if (begins.length >= needed) {
                return;
            }
            int room = Math.max(needed, Math.min(2 * begins.length, CODE_MOST + 2));
            begins = new int[room];
            holder = new int[room];
            first = new int[room];
            last = new int[room];
            from = new int[room];
            numberOf = new int[room];
            nextWay = new int[room];
            ends = new int[2 * room];
            standing = new int[room];
            parents = new int[room];
            marks = new int[room];
            stack = new int[room];
        }

        private void markBeginnings() {
            Arrays.fill(begins, 0, flow.acts + 1, 0);
            begins[0] = 1;
            for (int i = 0; i < flow.acts; i++) {
                int op = flow.op(i);
                if (flow.deep[i] < 0 || op < EARLIEST_IF || op == CALL) {
                    continue;
                }
                begins[i + 1] = 1;
                if (op <= SWITCH) {
                    begins[flow.end(i, NONE)] = 1;
                }
                for (int k = 0; op == SWITCH && k < flow.keys(i); k++) {
                    begins[flow.end(i, k)] = 1;
                }
            }
        }

        private void gather() {
            count = 0;
            int open = NONE;
            for (int i = 0; i < flow.acts; i++) {
                if (begins[i] != 0) {
                    open = NONE;
                    if (flow.deep[i] >= 0) {
                        open = count;
                        first[open] = i;
                        count++;
                    }
                }
                holder[i] = open;
                if (open >= 0) {
                    last[open] = i;
                }
            }
        }

        private void link(int i) {
            int op = flow.op(i);
            if (op >= EARLIEST_IF && op <= LATEST_IF) {
                addEnd(holder[flow.end(i, NONE)]);
                addEnd(holder[i + 1]);
            } else if (op == JUMP) {
                addEnd(holder[flow.end(i, NONE)]);
            } else if (op == SWITCH) {
                int start = endCount;
                int other = holder[flow.end(i, NONE)];
                for (int k = 0; k < flow.keys(i); k++) {
                    int end = holder[flow.end(i, k)];
                    boolean known = end == other;
                    for (int j = start; j < endCount; j++) {
                        known = known || ends[j] == end;
                    }
                    if (!known) {
                        addEnd(end);
                    }
                }
                addEnd(other);
            } else if (op < JUMP || op == CALL) {
                addEnd(holder[i + 1]);
            }
        }

        private void addEnd(int b) {
            ends[endCount] = b;
            endCount++;
        }

        private void arrange() {
            Arrays.fill(nextWay, 0, count, NONE);
            int open = 1;
            int left = count;
            stack[0] = 0;
            nextWay[0] = from[0];
            for (int n = 0; open > 0 && n < FAR; n++) {
                int b = stack[open - 1];
                if (nextWay[b] < from[b + 1]) {
                    int end = ends[nextWay[b]];
                    nextWay[b]++;
                    if (nextWay[end] < 0) {
                        nextWay[end] = from[end];
                        stack[open] = end;
                        open++;
                    }
                } else {
                    open--;
                    left--;
                    numberOf[b] = left;
                    standing[left] = b;
                }
            }
        }

        /** Parents only ever move nearer to the first block, so the rounds end. */
        private void findParents() {
            Arrays.fill(parents, 0, count, NONE);
            boolean changed = true;
            for (int round = 0; changed && round <= 2 * count; round++) {
                changed = false;
                for (int b = 0; b < count; b++) {
                    for (int i = 0; i < ways(b); i++) {
                        int end = way(b, i);
                        int was = parents[end];
                        if (end != 0) {
                            parents[end] = was < 0 ? b : common(was, b);
                            changed = changed || parents[end] != was;
                        }
                    }
                }
            }
        }

        private int common(int some, int other) {
            int x = some;
            int y = other;
            for (int n = 0; x != y && n < 2 * count; n++) {
                if (x > y) {
                    x = parents[x];
                } else {
                    y = parents[y];
                }
            }
            return x;
        }

        private void findMarks() {
            knotted = false;
            Arrays.fill(marks, 0, count, 0);
            for (int b = 0; b < count; b++) {
                for (int i = 0; i < ways(b); i++) {
                    int end = way(b, i);
                    if (end > b) {
                        marks[end] |= (marks[end] & ENTERED) != 0 ? MET : ENTERED;
                    } else {
                        marks[end] |= HEAD;
                        knotted = knotted || common(end, b) != end;
                    }
                }
            }
        }

        int firstAct(int b) {
            return first[standing[b]];
        }

        int lastAct(int b) {
            return last[standing[b]];
        }

        int ways(int b) {
            return from[standing[b] + 1] - from[standing[b]];
        }

        int allWays() {
            return endCount;
        }

        int way(int b, int i) {
            return numberOf[ends[from[standing[b]] + i]];
        }

        int parent(int b) {
            return parents[b];
        }

        boolean isHead(int b) {
            return (marks[b] & HEAD) != 0;
        }

        boolean isMet(int b) {
            return (marks[b] & MET) != 0;
        }

        int ofAct(int i) {
            return holder[i] < 0 ? NONE : numberOf[holder[i]];
        }
    }

    /** Terms and statements, each a row of numbers; node 0 is none. Polishes statements, too. */
    private static final class Nodes {
        static final int SMALL = 1;
        static final int CONSTANT = 2;
        static final int NO_ARRAY = 3;
        static final int VARIABLE = 4;
        static final int FIELD_TERM = 5;
        static final int CALL_TERM = 6;
        static final int MAKE = 7;
        static final int SIZE = 8;
        static final int INDEX = 9;
        static final int MINUS = 10;
        static final int PAIR = 11;
        static final int ARGUMENT = 12;

        static final int SET = 20;
        static final int GROW = 21;
        static final int SET_ELEMENT = 22;
        static final int DROP = 23;
        static final int DO = 24;
        static final int GIVEN = 25;
        static final int ENDED = 26;
        static final int FAILED = 27;
        static final int BREAK = 28;
        static final int NEXT = 29;
        static final int IF = 30;
        static final int LOOP = 31;
        static final int WHILE = 32;
        static final int BLOCK = 33;
        static final int CHOICE = 34;
        static final int CASE = 35;
        static final int LIST = 36;

        private static final int WIDTH = 8;
        private int[] row = new int[WIDTH * 16];
        private int nodes;

        /** Few members have more nodes than the guess; rows that grow step by step would be longer in all. */
        void begin(int guess) {
            if (row.length < WIDTH * guess) {
                row = new int[Math.max(WIDTH * guess, 2 * row.length)];
            }
            nodes = 1;
        }

        int make(int kind, int a, int b, int c) {
            int at = WIDTH * nodes;
            if (at + WIDTH > row.length) {
                row = Arrays.copyOf(row, 2 * row.length);
            }
            row[at] = kind;
            row[at + 1] = a;
            row[at + 2] = b;
            row[at + 3] = c;
            row[at + 4] = 0;
            row[at + 5] = 0;
            row[at + 6] = 0;
            row[at + 7] = 0;
            nodes++;
            return nodes - 1;
        }

        int sort(int node) {
            return row[WIDTH * node];
        }

        int a(int node) {
            return row[WIDTH * node + 1];
        }

        int b(int node) {
            return row[WIDTH * node + 2];
        }

        int c(int node) {
            return row[WIDTH * node + 3];
        }

        int next(int node) {
            return row[WIDTH * node + 4];
        }

        int list(int node) {
            return row[WIDTH * node + 5];
        }

        int other(int node) {
            return row[WIDTH * node + 6];
        }

        /** How many breaks or nexts go to a block or loop. */
        int goers(int node) {
            return row[WIDTH * node + 7];
        }

        void setNext(int node, int next) {
            row[WIDTH * node + 4] = next;
        }

        void setList(int node, int list) {
            row[WIDTH * node + 5] = list;
        }

        void setOther(int node, int list) {
            row[WIDTH * node + 6] = list;
        }

        void addGoer(int node, int more) {
            row[WIDTH * node + 7] += more;
        }

        /** A list's first statement is its a, the last its b. */
        void append(int list, int node) {
            int last = row[WIDTH * list + 2];
            if (last == 0) {
                row[WIDTH * list + 1] = node;
            } else {
                row[WIDTH * last + 4] = node;
            }
            row[WIDTH * list + 2] = node;
        }

        /** How tightly a term holds together; 8 is the most. */
        int rank(int node) {
            int at = WIDTH * node;
            int op = row[at + 3] - 9;
            boolean pair = row[at] == PAIR && op >= 0 && op < RANKS.length;
            return pair ? RANKS[op] : row[at] == MINUS ? 7 : 8;
        }

        boolean isEmpty(int list) {
            return a(list) == 0;
        }

        private void removeLast(int list) {
            int before = 0;
            int s = a(list);
            for (int n = 0; s != b(list) && n < nodes; n++) {
                before = s;
                s = next(s);
            }
            row[WIDTH * list + 2] = before;
            if (before == 0) {
                row[WIDTH * list + 1] = 0;
            } else {
                setNext(before, 0);
            }
        }

        /** The statements of a list come in behind one of another list (0: ahead of all); the last of them. */
        private int insert(int into, int before, int from) {
            int first = row[WIDTH * from + 1];
            int last = row[WIDTH * from + 2];
            if (first == 0) {
                return before;
            }
            int link = before == 0 ? WIDTH * into + 1 : WIDTH * before + 4;
            int behind = row[link];
            row[link] = first;
            row[WIDTH * last + 4] = behind;
            if (behind == 0) {
                row[WIDTH * into + 2] = last;
            }
            return last;
        }

        private void remove(int list, int before, int node) {
            if (before == 0) {
                row[WIDTH * list + 1] = next(node);
            } else {
                setNext(before, next(node));
            }
            if (b(list) == node) {
                row[WIDTH * list + 2] = before;
            }
            setNext(node, 0);
        }

        void polish(int root) {
            clean(root, 0);
            turn(root, 0);
            clean(root, 0);
        }

        /** C and D. */
        private void clean(int list, int depth) {
            int before = 0;
            int s = depth > DEEPEST ? 0 : a(list);
            for (int n = 0; s != 0 && n < nodes; n++) {
                int next = next(s);
                int kind = sort(s);
                if (kind >= IF && kind <= BLOCK) {
                    clean(list(s), depth + 1);
                }
                if (kind == IF) {
                    clean(other(s), depth + 1);
                }
                for (int part = kind == CHOICE ? a(list(s)) : 0, k = 0; part != 0 && k < nodes; k++) {
                    clean(list(part), depth + 1);
                    part = next(part);
                }
                if (kind == LOOP || kind == WHILE || kind == BLOCK) {
                    strip(list(s), s, depth + 1);
                }
                if (kind == BLOCK && goers(s) == 0) {
                    remove(list, before, s);
                    before = insert(list, before, list(s));
                } else {
                    before = s;
                }
                s = next;
            }
        }

        /** Takes away what goes to a target and stands at the end of a list. */
        private void strip(int list, int target, int depth) {
            int s = b(list);
            if (s == 0 || depth > DEEPEST + 1) {
                return;
            }
            int kind = sort(s);
            if (kind == BREAK || kind == NEXT) {
                if (a(s) == target) {
                    removeLast(list);
                    addGoer(target, -1);
                }
            } else if (kind == IF) {
                strip(list(s), target, depth + 1);
                strip(other(s), target, depth + 1);
            } else if (kind == BLOCK) {
                strip(list(s), target, depth + 1);
            } else if (kind == CHOICE) {
                int part = a(list(s));
                for (int n = 0; part != 0 && n < nodes; n++) {
                    strip(list(part), target, depth + 1);
                    part = next(part);
                }
            }
        }

        /** A, B and E. */
        private void turn(int list, int depth) {
            int s = depth > DEEPEST ? 0 : a(list);
            for (int n = 0; s != 0 && n < nodes; n++) {
                int next = next(s);
                int kind = sort(s);
                if (kind >= IF && kind <= BLOCK) {
                    turn(list(s), depth + 1);
                }
                for (int part = kind == CHOICE ? a(list(s)) : 0, k = 0; part != 0 && k < nodes; k++) {
                    turn(list(part), depth + 1);
                    part = next(part);
                }
                if (kind == IF) {
                    turn(other(s), depth + 1);
                    turnIf(list, s);
                } else if (kind == BLOCK) {
                    findWhile(s);
                }
                s = next;
            }
        }

        private void turnIf(int list, int s) {
            if (isEmpty(other(s))) {
                return;
            }
            if (isEmpty(list(s))) {
                swapParts(s);
            } else if (leaves(list(s), 0)) {
                empty(list, s);
            } else if (leaves(other(s), 0)) {
                swapParts(s);
                empty(list, s);
            }
        }

        private void swapParts(int s) {
            int list = list(s);
            setList(s, other(s));
            setOther(s, list);
            row[WIDTH * s + 1] = OPPOSITE[a(s)];
        }

        /** What the else of s holds stands behind s. */
        private void empty(int list, int s) {
            int part = other(s);
            insert(list, s, part);
            row[WIDTH * part + 1] = 0;
            row[WIDTH * part + 2] = 0;
        }

        private void findWhile(int block) {
            int loop = a(list(block));
            if (loop == 0 || next(loop) != 0 || sort(loop) != LOOP) {
                return;
            }
            int s = a(list(loop));
            if (s == 0 || sort(s) != IF || !isEmpty(other(s))) {
                return;
            }
            int only = a(list(s));
            if (only == 0 || next(only) != 0 || sort(only) != BREAK || a(only) != block) {
                return;
            }
            remove(list(loop), 0, s);
            addGoer(block, -1);
            int at = WIDTH * loop;
            row[at] = WHILE;
            row[at + 6] = a(loop);
            row[at + 1] = OPPOSITE[a(s)];
            row[at + 2] = b(s);
            row[at + 3] = c(s);
        }

        /** Of a loop the byte for its label; a while keeps it where an if has its else. */
        int label(int node) {
            return sort(node) == WHILE ? other(node) : a(node);
        }

        private boolean leaves(int list, int depth) {
            int s = b(list);
            if (s == 0 || depth > DEEPEST) {
                return false;
            }
            switch (sort(s)) {
                case GIVEN: return true;
                case ENDED: return true;
                case FAILED: return true;
                case BREAK: return true;
                case NEXT: return true;
                case LOOP: return true;
                case IF: return leaves(list(s), depth + 1) && leaves(other(s), depth + 1);
                case BLOCK: return goers(s) == 0 && leaves(list(s), depth + 1);
                case CHOICE:
                    boolean all = true;
                    int part = a(list(s));
                    for (int n = 0; part != 0 && n < nodes; n++) {
                        all = all && leaves(list(part), depth + 1);
                        part = next(part);
                    }
                    return all;
                default: return false;
            }
        }
    }

    /** Makes a tree of statements of a member's blocks. */
    private static final class Tree {
        /** Families of variables: locals as N and as A, temporaries of both kinds, their places, and at. */
        static final int N = 0;
        static final int R = 1;
        static final int T = 2;
        static final int U = 3;
        static final int S = 4;
        static final int Q = 5;
        static final int AT = 6;

        private final Nodes nodes;
        private Flow flow;
        private Blocks blocks;
        /** Bits of the locals that statements have as N, as A. */
        long numbers;
        long arrays;
        int numberTemporaries;
        int arrayTemporaries;
        boolean numberPlace;
        boolean arrayPlace;
        private final int[] pile = new int[PILE_MOST + 2];
        private int deep;
        private int list;
        private int[] blockNode = new int[1];
        private int[] loopNode = new int[1];
        /** What is still to be shaped, the next on top: list, block, depth. */
        private int[] work = new int[3];
        private int waiting;
        private int dispatcher;
        private boolean tooDeep;

        Tree(Nodes store) {
            nodes = store;
        }

        boolean isKnotted() {
            return blocks.knotted;
        }

        private void begin(Flow from, Blocks of) {
            flow = from;
            blocks = of;
            makeRoom(blocks.count);
            nodes.begin(3 * flow.acts + 8 * blocks.count + 4 * blocks.allWays());
            numbers = 0;
            arrays = 0;
            numberTemporaries = 0;
            arrayTemporaries = 0;
            numberPlace = false;
            arrayPlace = false;
            tooDeep = false;
            waiting = 0;
        }

        /** The list of a plain member's statements, 0 if it is too deep. */
        int build(Flow from, Blocks of) {
            begin(from, of);
            int root = nodes.make(Nodes.LIST, 0, 0, 0);
            later(root, 0, 0);
            for (int n = 0; waiting > 0 && !tooDeep && n < blocks.count; n++) {
                waiting--;
                int x = work[3 * waiting + 1];
                int depth = shape(work[3 * waiting], x, work[3 * waiting + 2]);
                findStatements(x);
                finish(x, depth);
            }
            return tooDeep ? 0 : root;
        }

        private void makeRoom(int n) {
            if (blockNode.length < n) {
                int room = Math.max(n, 2 * blockNode.length);
                blockNode = new int[room];
                loopNode = new int[room];
                work = new int[3 * room];
            }
        }

        private void later(int into, int b, int depth) {
            if (3 * waiting + 2 < work.length) {
                work[3 * waiting] = into;
                work[3 * waiting + 1] = b;
                work[3 * waiting + 2] = depth;
                waiting++;
            }
        }

        private int label(int b) {
            return flow.at[blocks.firstAct(b)];
        }

        private int holder(int kind, int a, int into) {
            int node = nodes.make(kind, a, 0, 0);
            nodes.setList(node, nodes.make(Nodes.LIST, 0, 0, 0));
            nodes.append(into, node);
            return node;
        }

        /** TREE(x): what waits is put so that parts are shaped as they stand in the text. How deep x's list is. */
        private int shape(int into, int x, int depth) {
            int inner = into;
            int deeper = depth;
            if (blocks.isHead(x)) {
                loopNode[x] = holder(Nodes.LOOP, label(x), inner);
                inner = nodes.list(loopNode[x]);
                deeper++;
            }
            for (int y = blocks.count - 1; y > x; y--) {
                if (blocks.isMet(y) && blocks.parent(y) == x) {
                    blockNode[y] = holder(Nodes.BLOCK, label(y), inner);
                    later(inner, y, deeper);
                    inner = nodes.list(blockNode[y]);
                    deeper++;
                }
            }
            list = inner;
            return deeper;
        }

        /** The list of a knotted member's statements. */
        int buildKnotted(Flow from, Blocks of) {
            begin(from, of);
            int root = nodes.make(Nodes.LIST, 0, 0, 0);
            int body = nodes.make(Nodes.LIST, 0, 0, 0);
            dispatcher = holder(Nodes.LOOP, 0, body);
            int choice = holder(Nodes.CHOICE, variable(AT, 0), nodes.list(dispatcher));
            for (int x = 0; x < blocks.count; x++) {
                int part = holder(Nodes.CASE, NONE, nodes.list(choice));
                nodes.setOther(part, x);
                list = nodes.list(part);
                findStatements(x);
                finish(x, 2);
            }
            nodes.setOther(holder(Nodes.CASE, NONE, nodes.list(choice)), NONE);
            list = root;
            for (int family = N; family <= R; family++) {
                for (int i = 0; i < flow.locals; i++) {
                    if (has(family, i)) {
                        set(variable(family, i), zero(family));
                    }
                }
                if (family == N ? numberPlace : arrayPlace) {
                    set(variable(family == N ? S : Q, 0), zero(family));
                }
            }
            set(variable(AT, 0), zero(N));
            nodes.append(root, dispatcher);
            return root;
        }

        private int zero(int family) {
            return nodes.make(family == N ? Nodes.SMALL : Nodes.NO_ARRAY, 0, 0, 0);
        }

        /** Whether statements have a local as N or as A (and it is then no parameter). */
        boolean has(int family, int local) {
            if (((family == N ? numbers : arrays) >>> local & 1) == 0) {
                return false;
            }
            int sign = flow.sign;
            return local >= flow.form.length(sign) || flow.form.parameterKind(sign, local) != family;
        }

        private int variable(int family, int number) {
            if (family == N) {
                numbers |= 1L << number;
            } else if (family == R) {
                arrays |= 1L << number;
            } else if (family == S) {
                numberPlace = true;
            } else if (family == Q) {
                arrayPlace = true;
            }
            return nodes.make(Nodes.VARIABLE, family, number, 0);
        }

        private void set(int target, int value) {
            nodes.append(list, nodes.make(Nodes.SET, target, value, 0));
        }

        private void push(int term) {
            if (deep < pile.length) {
                pile[deep] = term;
                deep++;
            }
        }

        private int pop() {
            if (deep == 0) {
                return 0;
            }
            deep--;
            return pile[deep];
        }

        /** Ahead of act i, puts out the lowest terms that are neither constants nor temporaries. */
        private void putOut(int act, int upTo) {
            for (int i = 0; i < upTo; i++) {
                int kind = nodes.sort(pile[i]);
                boolean known = kind == Nodes.VARIABLE && (nodes.a(pile[i]) == T || nodes.a(pile[i]) == U);
                if (kind > Nodes.NO_ARRAY && !known) {
                    boolean array = flow.pileKind(act, i) == KIND_A;
                    int number = array ? arrayTemporaries : numberTemporaries;
                    int made = nodes.make(Nodes.VARIABLE, array ? U : T, number, 0);
                    nodes.append(list, nodes.make(Nodes.SET, made, pile[i], 0));
                    pile[i] = made;
                    arrayTemporaries += array ? 1 : 0;
                    numberTemporaries += array ? 0 : 1;
                }
            }
        }

        /** The statements of x come to the list that is filled now. */
        private void findStatements(int x) {
            deep = 0;
            int first = blocks.firstAct(x);
            int last = blocks.lastAct(x);
            if (flow.deep[first] > 0) {
                push(variable(flow.pileKind(first, 0) == KIND_A ? Q : S, 0));
                putOut(first, 1);
            }
            for (int i = first; i <= last; i++) {
                int op = flow.op(i);
                if (op >= 21 && op <= 23) {
                    turn(i, op);
                } else if (op == CALL) {
                    addCall(i, flow.u2(i, 1));
                } else if (op == 5 || op == 6 || op == 8 || op == 20 || op == 26 || op > CALL) {
                    addStatement(i, op);
                } else if (op > 0 && op < EARLIEST_IF) {
                    pushTerm(i, op);
                }
            }
        }

        private void pushTerm(int i, int op) {
            int last = op >= 9 ? pop() : 0;
            if (op == 1) {
                push(nodes.make(Nodes.SMALL, (byte) flow.u1(i, 1), 0, 0));
            } else if (op == 2) {
                push(nodes.make(Nodes.CONSTANT, flow.u2(i, 1), 0, 0));
            } else if (op == 3) {
                push(nodes.make(Nodes.NO_ARRAY, 0, 0, 0));
            } else if (op == 4) {
                int local = flow.u1(i, 1);
                push(variable(flow.localKind(i, local) == 2 ? R : N, local));
            } else if (op == 7) {
                push(nodes.make(Nodes.FIELD_TERM, flow.u2(i, 1), 0, 0));
            } else if (op <= 18) {
                push(nodes.make(Nodes.PAIR, pop(), last, op));
            } else if (op == 19) {
                push(nodes.make(Nodes.MINUS, last, 0, 0));
            } else if (op == 24) {
                push(nodes.make(Nodes.MAKE, last, 0, 0));
            } else if (op == 25) {
                push(nodes.make(Nodes.INDEX, pop(), last, 0));
            } else {
                push(nodes.make(Nodes.SIZE, last, 0, 0));
            }
        }

        private void turn(int i, int op) {
            putOut(i, deep);
            int top = pop();
            int under = op == 21 ? top : pop();
            push(top);
            push(under);
            if (op == 23) {
                push(top);
            }
        }

        private void addStatement(int i, int op) {
            int taken = op == 26 ? 3 : op == 6 || op == COME_BACK ? 0 : 1;
            putOut(i, deep - taken);
            int last = taken > 0 ? pop() : 0;
            if (op == 5) {
                set(variable(flow.pileKind(i, deep) == KIND_A ? R : N, flow.u1(i, 1)), last);
            } else if (op == 8) {
                set(nodes.make(Nodes.FIELD_TERM, flow.u2(i, 1), 0, 0), last);
            } else if (op == 6) {
                int grown = variable(N, flow.u1(i, 1));
                nodes.append(list, nodes.make(Nodes.GROW, grown, (byte) flow.u1(i, 2), 0));
            } else if (op == 26) {
                int index = pop();
                nodes.append(list, nodes.make(Nodes.SET_ELEMENT, pop(), index, last));
            } else {
                int kind = op == 20 ? Nodes.DROP : op == GIVE ? Nodes.GIVEN : op == FAIL ? Nodes.FAILED : Nodes.ENDED;
                nodes.append(list, nodes.make(kind, last, 0, 0));
            }
        }

        private void addCall(int act, int entry) {
            int sign = flow.form.signOf(entry);
            int n = flow.form.length(sign);
            putOut(act, deep - n);
            int arguments = 0;
            for (int i = 0; i < n; i++) {
                int argument = nodes.make(Nodes.ARGUMENT, pop(), 0, 0);
                nodes.setNext(argument, arguments);
                arguments = argument;
            }
            int term = nodes.make(Nodes.CALL_TERM, entry, arguments, n);
            if (flow.form.result(sign) == KIND_V) {
                nodes.append(list, nodes.make(Nodes.DO, term, 0, 0));
            } else {
                push(term);
            }
        }

        /** END(x): the list of x's statements is the one that is filled now. */
        private void finish(int x, int depth) {
            int i = blocks.lastAct(x);
            int op = flow.op(i);
            int into = list;
            if (op >= EARLIEST_IF && op <= LATEST_IF) {
                finishIf(x, i, depth);
            } else if (op == SWITCH) {
                finishChoice(x, i, depth);
            } else if (op == JUMP || op < EARLIEST_IF || op == CALL) {
                setPlace(op == JUMP ? i : i + 1);
                go(x, blocks.way(x, 0), into, depth);
            }
            tooDeep = tooDeep || depth > DEEPEST;
        }

        /** What lies there, with the kind that it has ahead of an act, goes to its place. */
        private void setPlace(int act) {
            if (deep > 0) {
                boolean array = flow.pileKind(act, 0) == KIND_A;
                numberPlace = numberPlace || !array;
                arrayPlace = arrayPlace || array;
                int place = nodes.make(Nodes.VARIABLE, array ? Q : S, 0, 0);
                nodes.append(list, nodes.make(Nodes.SET, place, pile[0], 0));
                deep = 0;
            }
        }

        private void finishIf(int x, int i, int depth) {
            int op = flow.op(i);
            putOut(i, deep - (op < 34 ? 2 : 1));
            int right = pop();
            int left = right;
            if (op < 34) {
                left = pop();
            } else {
                right = zero(op < 40 ? N : R);
            }
            setPlace(i);
            int condition = op < 34 ? op - 28 : op < 40 ? op - 34 : op - 40;
            int node = nodes.make(Nodes.IF, condition, left, right);
            int then = nodes.make(Nodes.LIST, 0, 0, 0);
            int other = nodes.make(Nodes.LIST, 0, 0, 0);
            nodes.setList(node, then);
            nodes.setOther(node, other);
            nodes.append(list, node);
            tooDeep = tooDeep || depth >= DEEPEST;
            go(x, blocks.way(x, 1), other, depth + 1);
            go(x, blocks.way(x, 0), then, depth + 1);
        }

        private void finishChoice(int x, int i, int depth) {
            putOut(i, deep - 1);
            int value = pop();
            setPlace(i);
            int node = holder(Nodes.CHOICE, value, list);
            int parts = nodes.list(node);
            int n = blocks.ways(x);
            for (int w = 0; w < n; w++) {
                int part = holder(Nodes.CASE, i, parts);
                nodes.setOther(part, w == n - 1 ? NONE : blocks.firstAct(blocks.way(x, w)));
            }
            tooDeep = tooDeep || depth >= DEEPEST;
            // The last part first, so that the first is on top of what waits.
            for (int w = n - 1; w >= 0; w--) {
                int part = nodes.a(parts);
                for (int k = 0; k < w; k++) {
                    part = nodes.next(part);
                }
                go(x, blocks.way(x, w), nodes.list(part), depth + 1);
            }
        }

        private void go(int x, int y, int into, int depth) {
            if (blocks.knotted) {
                int at = nodes.make(Nodes.VARIABLE, AT, 0, 0);
                nodes.append(into, nodes.make(Nodes.SET, at, nodes.make(Nodes.SMALL, y, 0, 0), 0));
                nodes.append(into, nodes.make(Nodes.NEXT, dispatcher, 0, 0));
                nodes.addGoer(dispatcher, 1);
            } else if (y <= x) {
                nodes.append(into, nodes.make(Nodes.NEXT, loopNode[y], 0, 0));
                nodes.addGoer(loopNode[y], 1);
            } else if (blocks.isMet(y)) {
                nodes.append(into, nodes.make(Nodes.BREAK, blockNode[y], 0, 0));
                nodes.addGoer(blockNode[y], 1);
            } else {
                later(into, y, depth);
            }
        }
    }

    /** Writes a member's text. */
    private static final class Printer {
        private static final String FAMILIES = "nrtusqa";
        private static final int COMMA = -300;
        private static final int OPERATORS = -400;
        private static final int NAMES = -1000;

        byte[] out = new byte[128];
        int length;
        private final Nodes nodes;
        private Form form;
        private Flow flow;
        /** What is still to be written of a term, the next on top: signs and names below 0, else twice a node,
         * and one more in brackets. */
        private int[] stack = new int[16];
        private int top;

        Printer(Nodes store) {
            nodes = store;
        }

        boolean holds(byte[] signs) {
            boolean same = signs.length == length && length <= out.length;
            for (int i = 0; same && i < signs.length; i++) {
                same = signs[i] == out[i];
            }
            return same;
        }

        /** The lines ahead of the member's statements. */
        void begin(Flow from, Tree tree, int member) {
            flow = from;
            form = from.form;
            length = 0;
            int sign = form.signOf(member);
            say(form.result(sign) == KIND_V ? "void" : form.result(sign) == KIND_A ? "array" : "number");
            put(' ');
            sayName(form.nameOf(member));
            put('(');
            for (int i = 0; i < form.length(sign); i++) {
                if (i > 0) {
                    say(", ");
                }
                boolean array = form.parameterKind(sign, i) == KIND_A;
                say(array ? "array r" : "number n");
                sayNumber(i);
            }
            say(") {\n");
            declare(tree, Tree.N, "  number ");
            declare(tree, Tree.R, "  array ");
        }

        void end() {
            say("}\n");
        }

        private void declare(Tree tree, int family, String kind) {
            String ahead = kind;
            for (int i = 0; i < flow.locals; i++) {
                if (tree.has(family, i)) {
                    say(ahead);
                    put(FAMILIES.charAt(family));
                    sayNumber(i);
                    ahead = ", ";
                }
            }
            int temporaries = family == Tree.N ? tree.numberTemporaries : tree.arrayTemporaries;
            for (int i = 0; i < temporaries; i++) {
                say(ahead);
                put(FAMILIES.charAt(family + 2));
                sayNumber(i);
                ahead = ", ";
            }
            if (family == Tree.N ? tree.numberPlace : tree.arrayPlace) {
                say(ahead);
                say(family == Tree.N ? "s0" : "q0");
                ahead = ", ";
            }
            if (family == Tree.N && tree.isKnotted()) {
                say(ahead);
                say("at");
                ahead = ", ";
            }
            if (ahead.length() == 2) {
                say(";\n");
            }
        }

        private void put(int c) {
            if (length < SIGNS_MOST) {
                if (length >= out.length) {
                    out = Arrays.copyOf(out, Math.min(SIGNS_MOST, 2 * out.length));
                }
                out[length] = (byte) c;
            }
            length++;
        }

        private void say(String signs) {
            for (int i = 0; i < signs.length(); i++) {
                put(signs.charAt(i));
            }
        }

        private void sayName(int k) {
            int at = form.place(k) + 2;
            int n = form.u1(at - 1);
            for (int i = 0; i < n; i++) {
                put(form.u1(at + i));
            }
        }

        private void sayNumber(long value) {
            if (value < 0) {
                put('-');
            }
            // Below 0 there is room for every number.
            long left = value < 0 ? value : -value;
            long power = 1;
            for (int i = 0; i < 18 && left / power <= -10; i++) {
                power *= 10;
            }
            for (int i = 0; i < 19 && power > 0; i++) {
                put('0' - (int) (left / power % 10));
                power /= 10;
            }
        }

        private void indent(int depth) {
            for (int i = 0; i < depth; i++) {
                say("  ");
            }
        }

        void lines(int list, int depth) {
            int s = depth > 2 * DEEPEST + 2 ? 0 : nodes.a(list);
            for (int n = 0; s != 0 && n < FAR; n++) {
                indent(depth);
                int kind = nodes.sort(s);
                if (kind < Nodes.IF) {
                    sayStatement(s, kind);
                    say(";\n");
                } else {
                    sayOpening(s, kind);
                    say(" {\n");
                    lines(nodes.list(s), depth + 1);
                    if (kind == Nodes.IF && !nodes.isEmpty(nodes.other(s))) {
                        indent(depth);
                        say("} else {\n");
                        lines(nodes.other(s), depth + 1);
                    }
                    indent(depth);
                    say("}\n");
                }
                s = nodes.next(s);
            }
        }

        private void sayStatement(int s, int kind) {
            switch (kind) {
                case Nodes.SET_ELEMENT:
                    sayTerm(nodes.a(s));
                    put('[');
                    sayTerm(nodes.b(s));
                    say("] = ");
                    sayTerm(nodes.c(s));
                    break;
                case Nodes.SET:
                    sayTerm(nodes.a(s));
                    say(" = ");
                    sayTerm(nodes.b(s));
                    break;
                case Nodes.GROW:
                    sayTerm(nodes.a(s));
                    say(" += ");
                    sayNumber(nodes.b(s));
                    break;
                case Nodes.BREAK:
                    say("break b");
                    sayNumber(nodes.label(nodes.a(s)));
                    break;
                case Nodes.NEXT:
                    say("next l");
                    sayNumber(nodes.label(nodes.a(s)));
                    break;
                case Nodes.ENDED:
                    say("end");
                    break;
                default:
                    say(kind == Nodes.DROP ? "drop " : kind == Nodes.GIVEN ? "give " : kind == Nodes.FAILED ? "fail " : "");
                    sayTerm(nodes.a(s));
                    break;
            }
        }

        private void sayOpening(int s, int kind) {
            if (kind == Nodes.BLOCK || nodes.goers(s) > 0) {
                put(kind == Nodes.BLOCK ? 'b' : 'l');
                sayNumber(nodes.label(s));
                put(':');
            }
            if ((kind == Nodes.LOOP || kind == Nodes.WHILE) && nodes.goers(s) > 0) {
                put(' ');
            }
            if (kind == Nodes.LOOP) {
                say("loop");
            } else if (kind == Nodes.CHOICE) {
                say("switch (");
                sayTerm(nodes.a(s));
                put(')');
            } else if (kind == Nodes.CASE) {
                sayKeys(nodes.a(s), nodes.other(s));
            } else if (kind == Nodes.IF || kind == Nodes.WHILE) {
                say(kind == Nodes.IF ? "if (" : "while (");
                sayTerm(nodes.b(s));
                sayCondition(nodes.a(s));
                sayTerm(nodes.c(s));
                put(')');
            }
        }

        private void sayCondition(int c) {
            say(c == 0 ? " == " : c == 1 ? " != " : c == 2 ? " < " : c == 3 ? " <= " : c == 4 ? " > " : " >= ");
        }

        /** The keys of switch i that go to an act; without a switch, the number of a block. */
        private void sayKeys(int i, int end) {
            if (end < 0) {
                say("default:");
                return;
            }
            say("case");
            if (i < 0) {
                put(' ');
                sayNumber(end);
            }
            boolean first = true;
            for (int k = 0; i >= 0 && k < flow.keys(i); k++) {
                if (flow.end(i, k) == end) {
                    say(first ? " " : ", ");
                    sayNumber(flow.key(i, k));
                    first = false;
                }
            }
            put(':');
        }

        private void push(int item) {
            if (top >= stack.length) {
                stack = Arrays.copyOf(stack, 2 * stack.length);
            }
            stack[top] = item;
            top++;
        }

        /** Terms may be as deep as a code is long, so what is to come is kept in a row, not in calls. */
        private void sayTerm(int term) {
            top = 0;
            push(2 * term);
            for (int n = 0; top > 0 && n < FAR; n++) {
                top--;
                int item = stack[top];
                int node = item / 2;
                int sort = item < 0 ? 0 : nodes.sort(node);
                if (item <= NAMES) {
                    sayName(NAMES - item);
                } else if (item <= OPERATORS) {
                    sayOperator(OPERATORS - item);
                } else if (item == COMMA) {
                    say(", ");
                } else if (item < 0) {
                    put(-item);
                } else if (item % 2 == 1) {
                    put('(');
                    push(-')');
                    push(2 * node);
                } else if (sort == Nodes.FIELD_TERM || sort == Nodes.CALL_TERM) {
                    if (sort == Nodes.CALL_TERM) {
                        pushArguments(node);
                    }
                    pushNames(nodes.a(node));
                } else if (sort == Nodes.MAKE || sort == Nodes.SIZE) {
                    say(sort == Nodes.MAKE ? "make(" : "size(");
                    push(-')');
                    push(2 * nodes.a(node));
                } else if (sort > Nodes.SIZE) {
                    pushOperation(node, sort);
                } else if (sort == Nodes.NO_ARRAY) {
                    say("none");
                } else if (sort == Nodes.VARIABLE) {
                    put(FAMILIES.charAt(nodes.a(node)));
                    if (nodes.a(node) == Tree.AT) {
                        put('t');
                    } else {
                        sayNumber(nodes.b(node));
                    }
                } else {
                    sayNumber(sort == Nodes.SMALL ? nodes.a(node) : form.number(nodes.a(node)));
                }
            }
        }

        private void sayOperator(int op) {
            put(' ');
            if (op == 17 || op == 18) {
                put(op == 17 ? '<' : '>');
            }
            put("+-*/%&|^<>".charAt(op - 9));
            put(' ');
        }

        private void pushNames(int entry) {
            int at = form.place(entry);
            push(NAMES - form.u2(at + 3));
            push(-'.');
            push(NAMES - form.u2(at + 1));
        }

        private void pushArguments(int node) {
            push(-')');
            for (int i = nodes.c(node) - 1; i >= 0; i--) {
                int argument = nodes.b(node);
                for (int k = 0; k < i; k++) {
                    argument = nodes.next(argument);
                }
                push(2 * nodes.a(argument));
                if (i > 0) {
                    push(COMMA);
                }
            }
            push(-'(');
        }

        private void pushOperation(int node, int sort) {
            int a = nodes.a(node);
            int b = nodes.b(node);
            int rank = nodes.rank(a);
            if (sort == Nodes.INDEX) {
                push(-']');
                push(2 * b);
                push(-'[');
                push(2 * a + (rank < 8 ? 1 : 0));
            } else if (sort == Nodes.MINUS) {
                put('-');
                boolean number = nodes.sort(a) == Nodes.SMALL || nodes.sort(a) == Nodes.CONSTANT;
                push(2 * a + (rank <= 7 || number ? 1 : 0));
            } else {
                int own = nodes.rank(node);
                push(2 * b + (nodes.rank(b) <= own ? 1 : 0));
                push(OPERATORS - nodes.c(node));
                push(2 * a + (rank < own ? 1 : 0));
            }
        }
    }

    /** Cuts a text into tokens; the one that was read last is looked at. */
    private static final class Tokens {
        static final int END = 0;
        static final int BAD = 1;
        static final int WORD = 2;
        static final int DIGITS = 3;
        static final int SAME = 128;
        static final int OTHER = 129;
        static final int NOT_MORE = 130;
        static final int NOT_LESS = 131;
        static final int GROWS = 132;
        static final int LEFT = 133;
        static final int RIGHT = 134;
        static final int NUMBER_WORD = 140;
        static final int ARRAY_WORD = 141;
        static final int VOID_WORD = 142;
        static final int GIVE_WORD = 143;
        static final int END_WORD = 144;
        static final int FAIL_WORD = 145;
        static final int DROP_WORD = 146;
        static final int IF_WORD = 147;
        static final int ELSE_WORD = 148;
        static final int LOOP_WORD = 149;
        static final int WHILE_WORD = 150;
        static final int SWITCH_WORD = 151;
        static final int CASE_WORD = 152;
        static final int DEFAULT_WORD = 153;
        static final int BREAK_WORD = 154;
        static final int NEXT_WORD = 155;
        static final int NONE_WORD = 156;
        static final int MAKE_WORD = 157;
        static final int SIZE_WORD = 158;
        /** The words of the language, as their types rise, each with a blank behind it. */
        private static final String LANGUAGE =
            "number array void give end fail drop if else loop while switch case default break next none make size ";
        private static final String SIGNS = "(){}[],;:.=<>+-*/%&|^";

        byte[] text = new byte[0];
        /** How many signs of that row are the text. */
        int length;
        /** A sign's type is its character, if it has only one. */
        int type;
        int start;
        int stop;

        void begin(byte[] read, int signs) {
            text = read;
            length = Math.min(signs, read.length);
            stop = 0;
            advance();
        }

        void advance() {
            int end = length;
            int p = stop;
            while (p < end && (text[p] == ' ' || text[p] == '\n')) {
                p++;
            }
            start = p;
            if (p >= end) {
                type = END;
            } else if (text[p] >= '0' && text[p] <= '9') {
                while (p < end && text[p] >= '0' && text[p] <= '9') {
                    p++;
                }
                type = DIGITS;
            } else if (isWordSign(p)) {
                while (p < end && isWordSign(p)) {
                    p++;
                }
                type = p - start > 30 ? BAD : wordType(p - start);
            } else {
                type = signType(text[p] & 255, p + 1 < end ? text[p + 1] & 255 : 0);
                p += type >= SAME ? 2 : 1;
            }
            stop = p;
        }

        private boolean isWordSign(int p) {
            if (p >= length) {
                return false;
            }
            int c = text[p];
            return c >= 'a' && c <= 'z' || c >= 'A' && c <= 'Z' || c >= '0' && c <= '9' || c == '_';
        }

        private int wordType(int signs) {
            int word = 0;
            int from = 0;
            for (int i = 0; i < LANGUAGE.length(); i++) {
                if (LANGUAGE.charAt(i) != ' ') {
                    continue;
                }
                boolean same = i - from == signs;
                for (int k = 0; same && k < signs; k++) {
                    same = LANGUAGE.charAt(from + k) == text[start + k];
                }
                if (same) {
                    return NUMBER_WORD + word;
                }
                word++;
                from = i + 1;
            }
            return WORD;
        }

        private static int signType(int c, int behind) {
            if (behind == '=') {
                switch (c) {
                    case '=': return SAME;
                    case '!': return OTHER;
                    case '<': return NOT_MORE;
                    case '>': return NOT_LESS;
                    case '+': return GROWS;
                    default: break;
                }
            }
            if (c == behind && (c == '<' || c == '>')) {
                return c == '<' ? LEFT : RIGHT;
            }
            return SIGNS.indexOf((char) c) < 0 ? BAD : c;
        }

        /** Whether the token is a - with a digit directly behind it. */
        boolean isMinusOfDigits() {
            return type == '-' && stop < length && text[stop] >= '0' && text[stop] <= '9';
        }

        /** Whether the words that begin at two places are the same. */
        boolean sameWords(int p, int q) {
            int n = 0;
            while (n < 31 && isWordSign(p + n) && isWordSign(q + n) && text[p + n] == text[q + n]) {
                n++;
            }
            return !isWordSign(p + n) && !isWordSign(q + n);
        }

        /** 0 to 5 for == != < <= > >=, else NONE. */
        int comparison() {
            switch (type) {
                case SAME: return 0;
                case OTHER: return 1;
                case '<': return 2;
                case NOT_MORE: return 3;
                case '>': return 4;
                case NOT_LESS: return 5;
                default: return NONE;
            }
        }

        /** The act of an operator, 0 if the token is none. */
        int operator() {
            switch (type) {
                case '+': return 9;
                case '-': return 10;
                case '*': return 11;
                case '/': return 12;
                case '%': return 13;
                case '&': return 14;
                case '|': return 15;
                case '^': return 16;
                case LEFT: return 17;
                case RIGHT: return 18;
                default: return 0;
            }
        }
    }

    /** The acts that are made of a text, in rows; and the pools and files that are made of them. */
    private static final class Maker {
        private static final int WIDTH = 3;

        /** Of an act: op, what it has (a number, local, label, switch, the judged file's entry), and more. */
        private int[] rows = new int[WIDTH * 16];
        private int rowCount;
        private int[] offsets = new int[17];
        /** The row that a label stands at. */
        private int[] labels = new int[16];
        private int labelCount;
        /** Of keys: switch, key, label. */
        private int[] keys = new int[WIDTH * 8];
        private int keyCount;
        private int switches;
        private long[] numbers = new long[8];
        private int numberCount;
        byte[] code = new byte[64];
        int codeLength;
        int locals;
        int pile;
        private byte[] pool = new byte[64];
        private int poolLength;
        /** Where the entries of the pool begin, and where the last one ends. */
        private int[] entryAt = new int[16];
        int entryCount;
        private byte[] bodies = new byte[64];
        private int bodyLength;

        void begin() {
            rowCount = 0;
            labelCount = 0;
            keyCount = 0;
            switches = 0;
            numberCount = 0;
        }

        void add(int op, int a, int b) {
            if (rows.length < WIDTH * (rowCount + 1)) {
                rows = Arrays.copyOf(rows, 2 * rows.length);
                offsets = Arrays.copyOf(offsets, 2 * offsets.length);
            }
            int at = WIDTH * rowCount;
            rows[at] = op;
            rows[at + 1] = a;
            rows[at + 2] = b;
            rowCount++;
        }

        void addNumber(long value) {
            if (value >= -128 && value <= 127) {
                add(1, (int) value, 0);
                return;
            }
            if (numberCount >= numbers.length) {
                numbers = Arrays.copyOf(numbers, 2 * numbers.length);
            }
            numbers[numberCount] = value;
            numberCount++;
            add(2, numberCount - 1, 0);
        }

        /** Takes back the latest act; what it had. */
        int takeBack() {
            if (rowCount == 0) {
                return 0;
            }
            rowCount--;
            return rows[WIDTH * rowCount + 1];
        }

        int newLabel() {
            if (labelCount >= labels.length) {
                labels = Arrays.copyOf(labels, 2 * labels.length);
            }
            labels[labelCount] = 0;
            labelCount++;
            return labelCount - 1;
        }

        /** The label stands at the act that is added next. */
        void bind(int label) {
            labels[label] = rowCount;
        }

        int newSwitch() {
            switches++;
            return switches - 1;
        }

        boolean hasKey(int id, int key) {
            boolean has = false;
            for (int i = 0; i < keyCount; i++) {
                has = has || keys[WIDTH * i] == id && keys[WIDTH * i + 1] == key;
            }
            return has;
        }

        void addKey(int id, int key, int label) {
            if (keys.length < WIDTH * (keyCount + 1)) {
                keys = Arrays.copyOf(keys, 2 * keys.length);
            }
            keys[WIDTH * keyCount] = id;
            keys[WIDTH * keyCount + 1] = key;
            keys[WIDTH * keyCount + 2] = label;
            keyCount++;
        }

        /** Finds how long the code is and how many values lie on the pile at most. */
        void measure(Form form, int variables) {
            locals = variables;
            codeLength = 0;
            pile = 0;
            int deep = 0;
            for (int i = 0; i < rowCount; i++) {
                int op = rows[WIDTH * i];
                int a = rows[WIDTH * i + 1];
                offsets[i] = codeLength;
                codeLength += SIZES[op];
                for (int k = 0; op == SWITCH && k < keyCount; k++) {
                    codeLength += keys[WIDTH * k] == a ? 6 : 0;
                }
                int sign = op == CALL ? form.signOf(a) : 0;
                if (op == CALL) {
                    deep += (form.result(sign) == KIND_V ? 0 : 1) - form.length(sign);
                } else {
                    int taken = op == 8 ? 1 : TAKES[op];
                    deep += PUTS[op] == 0 ? 0 : 1;
                    for (int shift = 0; shift < 16 && taken >>> shift != 0; shift += 2) {
                        deep--;
                    }
                }
                pile = Math.max(pile, deep);
            }
            offsets[rowCount] = codeLength;
        }

        /** Acts ask for entries of the judged file; a number that it does not have asks for 0. */
        void askFound(Form form) {
            for (int i = 0; i < rowCount; i++) {
                int at = WIDTH * i;
                if (rows[at] == 2) {
                    rows[at + 2] = 0;
                    for (int k = form.entryCount; k > 0; k--) {
                        if (form.tag(k) == NUMBER && form.number(k) == numbers[rows[at + 1]]) {
                            rows[at + 2] = k;
                        }
                    }
                } else if (asks(rows[at])) {
                    rows[at + 2] = rows[at + 1];
                }
            }
        }

        private static boolean asks(int op) {
            return op == 7 || op == 8 || op == CALL;
        }

        /** Behind askFound: numbers that the file does not have become new entries behind its own. */
        void askNew(Form form) {
            beginPool();
            for (int i = 0; i < rowCount; i++) {
                int at = WIDTH * i;
                if (rows[at] == 2 && rows[at + 2] == 0) {
                    rows[at + 2] = form.entryCount + poolNumber(numbers[rows[at + 1]]);
                }
            }
        }

        /** Acts ask for entries of the pool that is made. */
        void askMade(Form form) {
            for (int i = 0; i < rowCount; i++) {
                int at = WIDTH * i;
                if (rows[at] == 2) {
                    rows[at + 2] = poolNumber(numbers[rows[at + 1]]);
                } else if (rows[at] == CALL) {
                    rows[at + 2] = poolMember(form, rows[at + 1]);
                } else if (asks(rows[at])) {
                    rows[at + 2] = poolField(form, rows[at + 1]);
                }
            }
        }

        /** Behind measure and one of the askings: the bytes of the code. */
        void assemble() {
            if (code.length < codeLength) {
                code = new byte[Math.max(codeLength, 2 * code.length)];
            }
            for (int i = 0; i < rowCount; i++) {
                int op = rows[WIDTH * i];
                int a = rows[WIDTH * i + 1];
                int b = rows[WIDTH * i + 2];
                int at = offsets[i];
                code[at] = (byte) op;
                if (op == 2 || asks(op)) {
                    putCode(at + 1, b);
                } else if (op == 1 || op == 4 || op == 5) {
                    code[at + 1] = (byte) a;
                } else if (op == 6) {
                    code[at + 1] = (byte) a;
                    code[at + 2] = (byte) b;
                } else if (op >= EARLIEST_IF && op <= JUMP) {
                    putCode(at + 1, offsets[labels[a]]);
                } else if (op == SWITCH) {
                    putCode(at + 1, offsets[labels[b]]);
                    code[at + 3] = (byte) ((offsets[i + 1] - at - 4) / 6);
                    putKeys(at + 4, a);
                }
            }
        }

        private void putCode(int at, int value) {
            code[at] = (byte) (value >> 8);
            code[at + 1] = (byte) value;
        }

        private void putKeys(int from, int id) {
            int at = from;
            long last = Long.MIN_VALUE;
            int least = 0;
            for (int n = 0; n < keyCount && least >= 0; n++) {
                least = NONE;
                for (int k = 0; k < keyCount; k++) {
                    boolean fits = keys[WIDTH * k] == id && keys[WIDTH * k + 1] > last;
                    if (fits && (least < 0 || keys[WIDTH * k + 1] < keys[WIDTH * least + 1])) {
                        least = k;
                    }
                }
                if (least >= 0) {
                    last = keys[WIDTH * least + 1];
                    putCode(at, (int) last >> 16);
                    putCode(at + 2, (int) last);
                    putCode(at + 4, offsets[labels[keys[WIDTH * least + 2]]]);
                    at += 6;
                }
            }
        }

        private void beginPool() {
            poolLength = 0;
            entryCount = 0;
            entryAt[0] = 0;
        }

        private void putPool(int value) {
            if (poolLength >= pool.length) {
                pool = Arrays.copyOf(pool, 2 * pool.length);
            }
            pool[poolLength] = (byte) value;
            poolLength++;
        }

        private void putPoolPair(int value) {
            putPool(value >> 8);
            putPool(value);
        }

        /** The entry that was put last, or an earlier one that is alike (it is then taken away). */
        private int keepEntry() {
            int start = entryAt[entryCount];
            for (int e = 0; e < entryCount; e++) {
                boolean same = entryAt[e + 1] - entryAt[e] == poolLength - start;
                for (int i = 0; same && start + i < poolLength; i++) {
                    same = pool[entryAt[e] + i] == pool[start + i];
                }
                if (same) {
                    poolLength = start;
                    return e + 1;
                }
            }
            entryCount++;
            if (entryCount >= entryAt.length) {
                entryAt = Arrays.copyOf(entryAt, 2 * entryAt.length);
            }
            entryAt[entryCount] = poolLength;
            return entryCount;
        }

        private int poolNumber(long value) {
            putPool(NUMBER);
            for (int i = 56; i >= 0; i -= 8) {
                putPool((int) (value >> i));
            }
            return keepEntry();
        }

        /** A NAME or SIGN: what it has stands in its own bytes. */
        private int poolPlain(Form form, int k) {
            int from = form.place(k);
            int length = 2 + form.length(k) + (form.tag(k) == SIGN ? 1 : 0);
            for (int i = 0; i < length; i++) {
                putPool(form.u1(from + i));
            }
            return keepEntry();
        }

        private int poolField(Form form, int k) {
            int owner = poolPlain(form, form.owner(k));
            int name = poolPlain(form, form.nameOf(k));
            putPool(FIELD);
            putPoolPair(owner);
            putPoolPair(name);
            putPool(form.fieldKind(k) == KIND_A ? 'A' : 'N');
            return keepEntry();
        }

        private int poolMember(Form form, int k) {
            int owner = poolPlain(form, form.owner(k));
            int name = poolPlain(form, form.nameOf(k));
            int sign = poolPlain(form, form.signOf(k));
            putPool(MEMBER);
            putPoolPair(owner);
            putPoolPair(name);
            putPoolPair(sign);
            return keepEntry();
        }

        void beginFile(Form form) {
            beginPool();
            bodyLength = 0;
            poolPlain(form, form.fileName());
            for (int i = 0; i < form.fields; i++) {
                poolField(form, form.fieldEntry[i]);
            }
            for (int m = 0; m < form.members; m++) {
                poolMember(form, form.memberEntry(m));
            }
        }

        /** The member that was assembled comes to the file that is made. */
        void addMember(Form form, int m) {
            int needed = bodyLength + codeLength + 6;
            if (bodies.length < needed) {
                bodies = Arrays.copyOf(bodies, Math.max(needed, 2 * bodies.length));
            }
            putBody(bodies, bodyLength, poolMember(form, form.memberEntry(m)));
            bodyLength = needed;
        }

        private void putBody(byte[] into, int at, int entry) {
            putPair(into, at, entry);
            into[at + 2] = (byte) locals;
            into[at + 3] = (byte) pile;
            putPair(into, at + 4, codeLength);
            System.arraycopy(code, 0, into, at + 6, codeLength);
        }

        private static void putPair(byte[] into, int at, int value) {
            into[at] = (byte) (value >> 8);
            into[at + 1] = (byte) value;
        }

        /** The file that was made of a form's texts. */
        void fillMade(Form form, Form made) {
            int fields = form.fields;
            made.begin(8 + poolLength + 6 + 2 * fields + bodyLength);
            byte[] bytes = made.bytes;
            System.arraycopy(form.bytes, 0, bytes, 0, 6);
            putPair(bytes, 6, entryCount);
            System.arraycopy(pool, 0, bytes, 8, poolLength);
            int at = 8 + poolLength;
            // The pool begins with the file's name.
            putPair(bytes, at, 1);
            putPair(bytes, at + 2, fields);
            for (int i = 0; i < fields; i++) {
                putPair(bytes, at + 4 + 2 * i, poolField(form, form.fieldEntry[i]));
            }
            putPair(bytes, at + 4 + 2 * fields, form.members);
            System.arraycopy(bodies, 0, bytes, at + 6 + 2 * fields, bodyLength);
        }

        /** A file with the assembled member in the place of its member m. */
        void fillEdited(Form form, int m, Form edited) {
            byte[] old = form.bytes;
            int start = form.memberAt[m];
            int behind = form.codeAt(m) + form.codeLength(m);
            edited.begin(form.size + poolLength + codeLength - form.codeLength(m));
            byte[] bytes = edited.bytes;
            System.arraycopy(old, 0, bytes, 0, form.nameAt);
            putPair(bytes, 6, form.entryCount + entryCount);
            System.arraycopy(pool, 0, bytes, form.nameAt, poolLength);
            System.arraycopy(old, form.nameAt, bytes, form.nameAt + poolLength, start - form.nameAt);
            putBody(bytes, start + poolLength, form.memberEntry(m));
            int at = start + poolLength + 6 + codeLength;
            System.arraycopy(old, behind, bytes, at, form.size - behind);
        }
    }

    /** Reads a member's text, tells its first error, and makes acts of it. */
    private static final class Judge {
        private static final int STATEMENT = 0;
        private static final int TERM = 1;
        private static final int NAMED = 2;
        private static final int BEHIND = 3;
        private static final int CLOSING = 4;
        private static final int CALLED = 5;
        private static final int DONE = 6;
        private static final int CASES = 7;
        private static final int LABELLED = 8;
        private static final int HEAD = 9;
        private static final int BODY = 10;
        private static final int HEAD_END = 11;
        private static final int THEN_END = 12;
        private static final int GROWING = 13;
        private static final int ENDED = 14;

        /** What a term is read for; PLACE: what begins a statement that no word of the language begins. */
        private static final int FOR_PLACE = 0;
        private static final int FOR_ELEMENT = 1;
        private static final int FOR_VARIABLE = 2;
        private static final int FOR_FIELD = 3;
        private static final int FOR_DROP = 4;
        private static final int FOR_GIVE = 5;
        private static final int FOR_FAIL = 6;
        private static final int FOR_CHOICE = 7;
        private static final int FOR_CONDITION = 8;

        /** What else is known of a term. */
        private static final int ZERO = 1;
        private static final int NO_ARRAY = 2;
        private static final int VARIABLE = 3;
        private static final int OF_FIELD = 4;
        private static final int OF_CALL = 5;
        private static final int PLACED = 6;

        /** What is open in a term, in rows: sort, the place of its first token, three more. */
        private static final int WIDTH = 5;
        private static final int OPERATION = 0;
        private static final int MINUS = 1;
        private static final int BRACKET = 2;
        private static final int INDEX = 3;
        private static final int CALLING = 4;
        private static final int MAKE = 5;
        private static final int SIZE = 6;
        private static final int COMPARISON = 7;

        /** What is open of statements, in rows of these. */
        private static final int SORT = 0;
        private static final int LABEL = 1;
        private static final int BEGIN = 2;
        private static final int BEHIND_ALL = 3;
        private static final int LEAVES = 4;
        private static final int ALL_LEAVE = 5;
        /** Of a block: whether a break goes to it; of an else: whether it has statements; of a switch: its number. */
        private static final int MORE = 6;
        private static final int KEYS = 7;
        private static final int FRAME = 8;

        private static final int WHOLE = 0;
        private static final int THEN = 1;
        private static final int ELSE = 2;
        private static final int LOOP = 3;
        private static final int WHILE = 4;
        private static final int BLOCK = 5;
        private static final int CASE = 6;
        private static final int DEFAULT = 7;

        private final Tokens tokens = new Tokens();
        private final Maker maker;
        private Form form;
        private int fault;
        private int state;
        private int purpose;
        private int subject;
        private int termKind;
        private int termAt;
        private int termIs;
        private final int[] stack = new int[WIDTH * (7 * DEEPEST + 8)];
        private int top;
        private int nested;
        private final int[] frames = new int[FRAME * (DEEPEST + 1)];
        private int open;
        /** Of variables: twice the place where the name was told first, 1 more for an array. */
        private final int[] told = new int[LOCALS_MOST];
        private int variables;
        private int parameters;
        private int result;
        int firstAt;
        private int nameAt;

        Judge(Maker rows) {
            maker = rows;
        }

        /** 0, or the error + 16 * its place. */
        int read(Form file, byte[] text, int length) {
            form = file;
            fault = 0;
            state = STATEMENT;
            top = 0;
            nested = 0;
            open = 0;
            variables = 0;
            maker.begin();
            tokens.begin(text, length);
            try {
                readHead();
                readDeclared();
                readStatements();
            } catch (IllegalStateException refused) {
                return fault;
            }
            return fault;
        }

        /** Whether the text that was read tells the name, parameters and result of a MEMBER. */
        boolean declares(int k) {
            int sign = form.signOf(k);
            int bits = 0;
            for (int i = 0; i < parameters; i++) {
                bits |= (told[i] & 1) << i;
            }
            return form.sameWord(form.nameOf(k), tokens.text, tokens.length, nameAt) && result == form.result(sign)
                    && form.hasParameters(sign, parameters, bits);
        }

        private void refuse(int error, int place) {
            fault = error + 16 * place;
            throw new IllegalStateException("refused");
        }

        private void expect(int type) {
            if (tokens.type != type) {
                refuse(1, tokens.start);
            }
            tokens.advance();
        }

        private void readHead() {
            firstAt = tokens.start;
            result = tokens.type - Tokens.NUMBER_WORD;
            if (tokens.type < Tokens.NUMBER_WORD || tokens.type > Tokens.VOID_WORD) {
                refuse(1, tokens.start);
            }
            tokens.advance();
            nameAt = tokens.start;
            expect(Tokens.WORD);
            expect('(');
            boolean more = tokens.type != ')';
            while (more && variables <= PARAMETERS_MOST) {
                int kind = readKind();
                if (variables == PARAMETERS_MOST) {
                    refuse(9, tokens.start);
                }
                tokens.advance();
                declare(kind);
                more = tokens.type == ',';
                if (more) {
                    tokens.advance();
                }
            }
            parameters = variables;
            expect(')');
            expect('{');
            enter(WHOLE, NONE, 0);
        }

        private int readKind() {
            if (tokens.type != Tokens.NUMBER_WORD && tokens.type != Tokens.ARRAY_WORD) {
                refuse(1, tokens.start);
            }
            return tokens.type == Tokens.ARRAY_WORD ? KIND_A : KIND_N;
        }

        private void declare(int kind) {
            int place = tokens.start;
            if (tokens.type != Tokens.WORD) {
                refuse(1, place);
            }
            if (known(place) >= 0) {
                refuse(2, place);
            }
            if (variables == told.length) {
                refuse(9, place);
            }
            told[variables] = 2 * place + kind;
            variables++;
            tokens.advance();
        }

        private int known(int place) {
            for (int i = 0; i < variables; i++) {
                if (tokens.sameWords(told[i] / 2, place)) {
                    return i;
                }
            }
            return NONE;
        }

        private void readDeclared() {
            for (int n = 0; n < FAR; n++) {
                if (tokens.type != Tokens.NUMBER_WORD && tokens.type != Tokens.ARRAY_WORD) {
                    return;
                }
                int kind = readKind();
                tokens.advance();
                declare(kind);
                for (int k = 0; tokens.type == ',' && k <= told.length; k++) {
                    tokens.advance();
                    declare(kind);
                }
                expect(';');
            }
        }

        /** Calls stay shallow as every state comes back here. */
        private void readStatements() {
            for (int n = 0; open > 0 && n < FAR; n++) {
                switch (state) {
                    case TERM:
                        readFirst();
                        break;
                    case NAMED:
                        readNamed();
                        break;
                    case BEHIND:
                        readBehind();
                        break;
                    case CLOSING:
                        closeBracket();
                        break;
                    case CALLED:
                        closeCall();
                        break;
                    case DONE:
                        finishTerm();
                        break;
                    case GROWING:
                        grow();
                        break;
                    case CASES:
                        readCase();
                        break;
                    case LABELLED:
                        readLabelled(termAt);
                        break;
                    case THEN_END:
                        closeThen();
                        break;
                    case STATEMENT:
                        if (tokens.type == Tokens.BREAK_WORD || tokens.type == Tokens.NEXT_WORD) {
                            readGoing(tokens.type == Tokens.BREAK_WORD);
                        } else if (tokens.type == '}' && frame(SORT) == WHOLE) {
                            finishMember(tokens.start);
                        } else if (tokens.type == '}') {
                            closeList();
                        } else {
                            readStatement();
                        }
                        break;
                    default:
                        readMark();
                        break;
                }
            }
            if (tokens.type != Tokens.END) {
                refuse(1, tokens.start);
            }
        }

        /** The one sign (or two) that must come now. */
        private void readMark() {
            if (state == HEAD) {
                expect('(');
                state = TERM;
            } else if (state == ENDED) {
                expect(';');
                state = STATEMENT;
            } else {
                if (state == HEAD_END) {
                    expect(')');
                }
                expect('{');
                state = STATEMENT;
            }
        }

        /** A new block, loop, if or switch; the whole member is around them all. */
        private void enter(int sort, int label, int place) {
            if (open > DEEPEST) {
                refuse(8, place);
            }
            int at = FRAME * open;
            frames[at + SORT] = sort;
            frames[at + LABEL] = label;
            frames[at + BEGIN] = maker.newLabel();
            frames[at + BEHIND_ALL] = maker.newLabel();
            frames[at + LEAVES] = 0;
            frames[at + ALL_LEAVE] = 1;
            frames[at + MORE] = 0;
            frames[at + KEYS] = 0;
            open++;
            maker.bind(frames[at + BEGIN]);
        }

        private void leave(boolean leaves) {
            open--;
            setFrame(LEAVES, leaves ? 1 : 0);
            state = STATEMENT;
        }

        private int frame(int what) {
            return open > 0 ? frames[FRAME * (open - 1) + what] : 0;
        }

        private void setFrame(int what, int value) {
            if (open > 0) {
                frames[FRAME * (open - 1) + what] = value;
            }
        }

        /** The frame around with the label at a place: any, a block's, a loop's; NONE without. */
        private int around(int place, boolean blocks, boolean loops) {
            for (int i = 1; i < open; i++) {
                int sort = frames[FRAME * i + SORT];
                boolean fits = sort == BLOCK ? blocks : loops && (sort == LOOP || sort == WHILE);
                int label = frames[FRAME * i + LABEL];
                if (fits && label >= 0 && tokens.sameWords(label, place)) {
                    return i;
                }
            }
            return NONE;
        }

        private void readStatement() {
            int place = tokens.start;
            switch (tokens.type) {
                case Tokens.WORD:
                    termAt = place;
                    tokens.advance();
                    purpose = FOR_PLACE;
                    state = tokens.type == ':' ? LABELLED : NAMED;
                    break;
                case Tokens.IF_WORD:
                    openHead(THEN, NONE, place);
                    break;
                case Tokens.LOOP_WORD:
                    openHead(LOOP, NONE, place);
                    break;
                case Tokens.WHILE_WORD:
                    openHead(WHILE, NONE, place);
                    break;
                case Tokens.SWITCH_WORD:
                    openHead(CASE, NONE, place);
                    break;
                default:
                    readPlain(place);
                    break;
            }
        }

        private void readPlain(int place) {
            state = TERM;
            if (tokens.type == Tokens.GIVE_WORD) {
                purpose = FOR_GIVE;
                if (result == KIND_V) {
                    refuse(5, place);
                }
                tokens.advance();
            } else if (tokens.type == Tokens.END_WORD) {
                if (result != KIND_V) {
                    refuse(5, place);
                }
                tokens.advance();
                maker.add(COME_BACK, 0, 0);
                finishStatement(1);
            } else if (tokens.type == Tokens.FAIL_WORD || tokens.type == Tokens.DROP_WORD) {
                purpose = tokens.type == Tokens.FAIL_WORD ? FOR_FAIL : FOR_DROP;
                tokens.advance();
            } else {
                purpose = FOR_PLACE;
                boolean first = tokens.type == Tokens.DIGITS || tokens.type == '(' || tokens.type >= Tokens.NONE_WORD;
                if (!first && !tokens.isMinusOfDigits()) {
                    refuse(1, place);
                }
            }
        }

        /** All but the ; of a statement is read. */
        private void finishStatement(int leaves) {
            setFrame(LEAVES, leaves);
            state = ENDED;
        }

        private void openHead(int sort, int label, int place) {
            enter(sort, label, place);
            tokens.advance();
            purpose = sort == CASE ? FOR_CHOICE : FOR_CONDITION;
            state = sort == LOOP ? BODY : HEAD;
        }

        /** Behind a label: its : is looked at. */
        private void readLabelled(int label) {
            if (around(label, true, true) >= 0) {
                refuse(2, label);
            }
            if (open > DEEPEST) {
                refuse(8, label);
            }
            tokens.advance();
            if (tokens.type == Tokens.LOOP_WORD) {
                openHead(LOOP, label, label);
            } else if (tokens.type == Tokens.WHILE_WORD) {
                openHead(WHILE, label, label);
            } else {
                enter(BLOCK, label, label);
                state = BODY;
            }
        }

        private void readGoing(boolean breaks) {
            tokens.advance();
            int place = tokens.start;
            if (tokens.type != Tokens.WORD) {
                refuse(1, place);
            }
            int target = around(place, breaks, !breaks);
            if (target < 0) {
                refuse(3, place);
            }
            tokens.advance();
            maker.add(JUMP, frames[FRAME * target + (breaks ? BEHIND_ALL : BEGIN)], 0);
            frames[FRAME * target + MORE] = 1;
            finishStatement(1);
        }

        /** A number with its -; it is small if it has 32 bits. */
        private long readNumber(boolean small) {
            int place = tokens.start;
            boolean below = tokens.isMinusOfDigits();
            if (below) {
                tokens.advance();
            }
            if (tokens.type != Tokens.DIGITS) {
                refuse(1, tokens.start);
            }
            // Below 0 there is room for every number.
            long value = 0;
            boolean fits = true;
            for (int i = tokens.start; i < tokens.stop; i++) {
                int digit = tokens.text[i] - '0';
                fits = fits && value >= (Long.MIN_VALUE + digit) / 10;
                value = value * 10 - digit;
            }
            fits = fits && (below || value != Long.MIN_VALUE);
            value = below ? value : -value;
            if (!fits || small && value != (int) value) {
                refuse(6, place);
            }
            tokens.advance();
            return value;
        }

        private void readCase() {
            if (tokens.type == Tokens.DEFAULT_WORD) {
                setFrame(SORT, DEFAULT);
                tokens.advance();
                maker.bind(frame(BEGIN));
            } else {
                expect(Tokens.CASE_WORD);
                int label = maker.newLabel();
                maker.bind(label);
                boolean more = true;
                for (int n = 0; more && n <= KEYS_MOST; n++) {
                    int place = tokens.start;
                    int key = (int) readNumber(true);
                    if (maker.hasKey(frame(MORE), key)) {
                        refuse(7, place);
                    }
                    if (frame(KEYS) == KEYS_MOST) {
                        refuse(9, place);
                    }
                    maker.addKey(frame(MORE), key, label);
                    setFrame(KEYS, frame(KEYS) + 1);
                    more = tokens.type == ',';
                    if (more) {
                        tokens.advance();
                    }
                }
            }
            expect(':');
            expect('{');
            setFrame(LEAVES, 0);
            state = STATEMENT;
        }

        private void closeList() {
            boolean leaves = frame(LEAVES) != 0;
            boolean all = leaves && frame(ALL_LEAVE) != 0;
            int begin = frame(BEGIN);
            int behind = frame(BEHIND_ALL);
            int sort = frame(SORT);
            if (!leaves && (sort == LOOP || sort == WHILE || sort == CASE)) {
                maker.add(JUMP, sort == CASE ? behind : begin, 0);
            }
            tokens.advance();
            if (sort == THEN) {
                state = THEN_END;
            } else if (sort == CASE) {
                setFrame(ALL_LEAVE, all ? 1 : 0);
                state = CASES;
            } else {
                if (sort == DEFAULT) {
                    expect('}');
                }
                maker.bind(sort == ELSE && frame(MORE) == 0 ? begin : behind);
                boolean broken = sort == BLOCK && frame(MORE) != 0;
                leave(sort == LOOP || sort != WHILE && all && !broken);
            }
        }

        /** Behind the } of an if. */
        private void closeThen() {
            boolean leaves = frame(LEAVES) != 0;
            if (tokens.type != Tokens.ELSE_WORD) {
                maker.bind(frame(BEGIN));
                leave(false);
                return;
            }
            tokens.advance();
            expect('{');
            setFrame(SORT, ELSE);
            setFrame(LEAVES, 0);
            setFrame(ALL_LEAVE, leaves ? 1 : 0);
            if (tokens.type != '}') {
                setFrame(MORE, 1);
                if (!leaves) {
                    maker.add(JUMP, frame(BEHIND_ALL), 0);
                }
                maker.bind(frame(BEGIN));
            }
            state = STATEMENT;
        }

        /** At the last }. */
        private void finishMember(int place) {
            if (frame(LEAVES) == 0) {
                if (result != KIND_V) {
                    refuse(10, place);
                }
                maker.add(COME_BACK, 0, 0);
            }
            maker.measure(form, variables);
            if (maker.pile > PILE_MOST) {
                refuse(9, place);
            }
            if (maker.codeLength > CODE_MOST) {
                refuse(11, place);
            }
            tokens.advance();
            open = 0;
        }

        private void setTerm(int kind, int place, int is) {
            termKind = kind;
            termAt = place;
            termIs = is;
            state = BEHIND;
        }

        private void need(int kind) {
            if (termKind != kind) {
                refuse(5, termAt);
            }
        }

        private void nest(int place) {
            if (nested == DEEPEST) {
                refuse(8, place);
            }
            nested++;
        }

        private void push(int sort, int place, int a, int b) {
            int at = WIDTH * top;
            if (at + WIDTH <= stack.length) {
                stack[at] = sort;
                stack[at + 1] = place;
                stack[at + 2] = a;
                stack[at + 3] = b;
                stack[at + 4] = 0;
                top++;
            }
        }

        private int topIs(int what) {
            return top > 0 ? stack[WIDTH * (top - 1) + what] : NONE;
        }

        /** Where a first, or a - in front of one, may stand. */
        private void readFirst() {
            int place = tokens.start;
            int type = tokens.type;
            if (type == Tokens.DIGITS || tokens.isMinusOfDigits()) {
                long value = readNumber(false);
                maker.addNumber(value);
                setTerm(KIND_N, place, value == 0 ? ZERO : 0);
            } else if (type == Tokens.WORD) {
                termAt = place;
                tokens.advance();
                state = NAMED;
            } else if (type == '-' || type == '(') {
                nest(place);
                push(type == '-' ? MINUS : BRACKET, place, 0, 0);
                tokens.advance();
            } else if (type == Tokens.NONE_WORD) {
                maker.add(3, 0, 0);
                tokens.advance();
                setTerm(KIND_A, place, NO_ARRAY);
            } else if (type == Tokens.MAKE_WORD || type == Tokens.SIZE_WORD) {
                tokens.advance();
                int bracket = tokens.start;
                if (tokens.type != '(') {
                    refuse(1, bracket);
                }
                nest(bracket);
                push(type == Tokens.MAKE_WORD ? MAKE : SIZE, place, 0, 0);
                tokens.advance();
            } else {
                refuse(1, place);
            }
        }

        /** Behind a name that began a term (at termAt): a variable, F.f or M.m( . */
        private void readNamed() {
            int place = termAt;
            if (tokens.type != '.') {
                int variable = known(place);
                if (variable < 0) {
                    refuse(3, place);
                }
                maker.add(4, variable, 0);
                setTerm(told[variable] & 1, place, VARIABLE);
                return;
            }
            tokens.advance();
            int name = tokens.start;
            expect(Tokens.WORD);
            if (tokens.type == '(') {
                nest(tokens.start);
                push(CALLING, place, name, 0);
                tokens.advance();
                state = tokens.type == ')' ? CALLED : TERM;
            } else {
                int entry = form.findField(tokens.text, tokens.length, place, name);
                if (entry == 0) {
                    refuse(4, place);
                }
                maker.add(7, entry, 0);
                setTerm(form.fieldKind(entry), place, OF_FIELD);
            }
        }

        /** Behind a first: [, an operator, or what ends the term. */
        private void readBehind() {
            if (tokens.type == Tokens.BAD || tokens.type == Tokens.END) {
                refuse(1, tokens.start);
            }
            if (tokens.type == '[') {
                need(KIND_A);
                nest(tokens.start);
                push(INDEX, termAt, 0, 0);
                tokens.advance();
                state = TERM;
                return;
            }
            int op = tokens.operator();
            int rank = op == 0 ? 0 : RANKS[op - 9];
            boolean closes = true;
            for (int n = 0; closes && top > 0 && n < stack.length; n++) {
                int sort = topIs(0);
                closes = sort == MINUS || sort == OPERATION && topIs(3) >= rank;
                if (closes) {
                    closeOperation(sort);
                }
            }
            boolean begins = purpose == FOR_PLACE && top == 0;
            if (rank > 0 && !begins) {
                need(KIND_N);
                push(OPERATION, termAt, op, rank);
                tokens.advance();
                state = TERM;
            } else {
                state = top == 0 || topIs(0) == COMPARISON ? DONE : CLOSING;
            }
        }

        private void closeOperation(int sort) {
            need(KIND_N);
            maker.add(sort == MINUS ? 19 : topIs(2), 0, 0);
            nested -= sort == MINUS ? 1 : 0;
            termAt = topIs(1);
            termIs = 0;
            top--;
        }

        /** The term within (, [, make(, size( or a call is read. */
        private void closeBracket() {
            int sort = topIs(0);
            int place = topIs(1);
            if (sort == CALLING) {
                int count = topIs(3);
                if (count < PARAMETERS_MOST) {
                    stack[WIDTH * (top - 1) + 4] |= termKind << count;
                }
                stack[WIDTH * (top - 1) + 3]++;
                if (tokens.type == ')') {
                    state = CALLED;
                } else {
                    expect(',');
                    state = TERM;
                }
                return;
            }
            if (sort != BRACKET) {
                need(sort == SIZE ? KIND_A : KIND_N);
            }
            expect(sort == INDEX ? ']' : ')');
            top--;
            nested--;
            if (sort == BRACKET) {
                setTerm(termKind, place, termIs == ZERO || termIs == NO_ARRAY ? termIs : 0);
            } else if (sort == INDEX && purpose == FOR_PLACE && top == 0 && tokens.type != '[') {
                setTerm(KIND_N, place, PLACED);
                state = DONE;
            } else {
                maker.add(sort == INDEX ? 25 : sort == MAKE ? 24 : 27, 0, 0);
                setTerm(sort == MAKE ? KIND_A : KIND_N, place, 0);
            }
        }

        /** At the ) of a call. */
        private void closeCall() {
            int place = topIs(1);
            int entry = form.findMember(tokens.text, tokens.length, place, topIs(2), topIs(3), topIs(4));
            if (entry == 0) {
                refuse(4, place);
            }
            int given = form.result(form.signOf(entry));
            boolean begins = purpose == FOR_PLACE && top == 1;
            if (given == KIND_V && !begins) {
                refuse(5, place);
            }
            maker.add(CALL, entry, 0);
            top--;
            nested--;
            tokens.advance();
            setTerm(given, place, OF_CALL);
            if (given == KIND_V) {
                state = DONE;
            }
        }

        private void finishTerm() {
            switch (purpose) {
                case FOR_PLACE:
                    finishPlace();
                    break;
                case FOR_ELEMENT:
                    need(KIND_N);
                    maker.add(26, 0, 0);
                    finishStatement(0);
                    break;
                case FOR_VARIABLE:
                    need(told[subject] & 1);
                    maker.add(5, subject, 0);
                    finishStatement(0);
                    break;
                case FOR_FIELD:
                    need(form.fieldKind(subject));
                    maker.add(8, subject, 0);
                    finishStatement(0);
                    break;
                case FOR_DROP:
                    maker.add(20, 0, 0);
                    finishStatement(0);
                    break;
                case FOR_GIVE:
                    need(result);
                    maker.add(GIVE, 0, 0);
                    finishStatement(1);
                    break;
                case FOR_FAIL:
                    need(KIND_N);
                    maker.add(FAIL, 0, 0);
                    finishStatement(1);
                    break;
                case FOR_CHOICE:
                    need(KIND_N);
                    expect(')');
                    expect('{');
                    setFrame(MORE, maker.newSwitch());
                    maker.add(SWITCH, frame(MORE), frame(BEGIN));
                    state = CASES;
                    break;
                default:
                    finishCondition();
                    break;
            }
        }

        /** What began a statement is read up to its =, += or ;. */
        private void finishPlace() {
            boolean set = tokens.type == '=';
            if (termKind == KIND_V) {
                finishStatement(0);
            } else if (termIs == VARIABLE && tokens.type == Tokens.GROWS) {
                need(KIND_N);
                subject = maker.takeBack();
                state = GROWING;
            } else if (set && (termIs == VARIABLE || termIs == OF_FIELD || termIs == PLACED)) {
                purpose = termIs == VARIABLE ? FOR_VARIABLE : termIs == OF_FIELD ? FOR_FIELD : FOR_ELEMENT;
                subject = termIs == PLACED ? 0 : maker.takeBack();
                tokens.advance();
                state = TERM;
            } else if (termIs == OF_CALL && tokens.type == ';') {
                refuse(5, termAt);
            } else {
                refuse(1, tokens.start);
            }
        }

        /** At the += of a variable. */
        private void grow() {
            tokens.advance();
            long value = readNumber(false);
            if (value >= -128 && value <= 127) {
                maker.add(6, subject, (int) value);
            } else {
                maker.add(4, subject, 0);
                maker.addNumber(value);
                maker.add(9, 0, 0);
                maker.add(5, subject, 0);
            }
            finishStatement(0);
        }

        private void finishCondition() {
            if (top == 0) {
                int comparison = tokens.comparison();
                if (comparison < 0) {
                    refuse(1, tokens.start);
                }
                push(COMPARISON, termAt, comparison, termKind);
                tokens.advance();
                state = TERM;
                return;
            }
            int comparison = topIs(2);
            boolean array = topIs(3) == KIND_A;
            if (array && (termIs != NO_ARRAY || comparison > 1)) {
                refuse(5, topIs(1));
            }
            if (!array) {
                need(KIND_N);
            }
            top--;
            int op = OPPOSITE[comparison] + EARLIEST_IF;
            if (array || termIs == ZERO) {
                maker.takeBack();
                op += array ? 12 : 6;
            }
            maker.add(op, frame(frame(SORT) == WHILE ? BEHIND_ALL : BEGIN), 0);
            state = HEAD_END;
        }
    }

    /** One side: fields, arrays and the call that is stepped. */
    private static final class Side {
        static final int RUNS = 1;
        private static final int CAME_BACK = 2;
        private static final int FAILED = 3;
        private static final int CALLS_MOST = 60;
        private static final int ARRAYS_MOST = 4000;
        private static final int CELLS_MOST = 40000;
        private static final int ARRAY_MOST = 1000;
        /** A call has room for 60 locals and for 60 values of its pile and some. */
        private static final int LOCALS = 60;
        private static final int ROOM = 124;

        final Form[] forms = new Form[FILES];
        private int files;
        private final long[][] fields = new long[FILES][];
        int arrays;
        private int[] arrayAt = new int[4];
        private long[] cells = new long[16];
        /** Of calls that run, in rows of four: file, member, place of the next act, values on the pile. */
        private final int[] frames = new int[4 * CALLS_MOST];
        private int open;
        private long[] values = new long[ROOM];
        int status;
        private int failure;
        private long failNumber;
        private long result;
        private int steps;

        void beginAnew(Form[] current, int count) {
            files = count;
            for (int f = 0; f < count; f++) {
                Form form = current[f];
                int n = form.fields;
                forms[f] = form;
                if (fields[f] == null || fields[f].length != n) {
                    fields[f] = new long[n];
                }
                for (int i = 0; i < n; i++) {
                    fields[f][i] = form.fieldKind(form.fieldEntry[i]) == KIND_A ? NONE : 0;
                }
            }
            arrays = 0;
            open = 0;
            status = 0;
            failure = 0;
            failNumber = 0;
            result = 0;
            steps = 0;
        }

        long fieldValue(int f, int i) {
            return fields[f][i];
        }

        int size(int array) {
            return arrayAt[array + 1] - arrayAt[array];
        }

        long cell(int array, int i) {
            return cells[arrayAt[array] + i];
        }

        long told(int what) {
            boolean runs = status == RUNS && open > 0;
            int at = 4 * (open - 1);
            switch (what) {
                case 0: return status;
                case 1: return result;
                case 2: return failure;
                case 3: return failNumber;
                case 4: return steps;
                case 5: return open;
                case 6: return runs ? frames[at] : NONE;
                case 7: return runs ? frames[at + 1] : NONE;
                default: return runs ? nextAct(frames[at], frames[at + 1], frames[at + 2]) : NONE;
            }
        }

        private int nextAct(int f, int m, int place) {
            Form form = forms[f];
            int p = form.codeAt(m);
            int n = 0;
            while (p < place && n < CODE_MOST) {
                p += Form.sizeAt(form.bytes, p);
                n++;
            }
            return n;
        }

        void begin(int f, int m, long a, long b) {
            status = RUNS;
            failure = 0;
            failNumber = 0;
            result = 0;
            steps = 0;
            open = 0;
            enter(f, m);
            Form form = forms[f];
            int sign = form.memberSign(m);
            for (int i = 0; status == RUNS && i < form.length(sign); i++) {
                long value = i % 2 == 0 ? a : b;
                if (form.parameterKind(sign, i) == KIND_A) {
                    value = newArray(4);
                    if (value < 0) {
                        fail(4, 0);
                    } else {
                        int at = arrayAt[(int) value];
                        cells[at] = a;
                        cells[at + 1] = b;
                        cells[at + 2] = a + b;
                        cells[at + 3] = i;
                    }
                }
                values[i] = value;
            }
        }

        private void enter(int f, int m) {
            int at = 4 * open;
            frames[at] = f;
            frames[at + 1] = m;
            frames[at + 2] = forms[f].codeAt(m);
            frames[at + 3] = 0;
            open++;
            if (values.length < ROOM * open) {
                values = Arrays.copyOf(values, Math.min(ROOM * CALLS_MOST, 2 * values.length));
            }
        }

        /** The number of a new array of zeros, NONE without room. */
        private int newArray(int n) {
            int used = arrays == 0 ? 0 : arrayAt[arrays];
            if (arrays >= ARRAYS_MOST || used + n > CELLS_MOST) {
                return NONE;
            }
            if (arrayAt.length < arrays + 2) {
                arrayAt = Arrays.copyOf(arrayAt, 2 * arrayAt.length);
            }
            if (cells.length < used + n) {
                cells = Arrays.copyOf(cells, Math.min(CELLS_MOST, Math.max(used + n, 2 * cells.length)));
            }
            Arrays.fill(cells, used, used + n, 0);
            arrayAt[arrays] = used;
            arrayAt[arrays + 1] = used + n;
            arrays++;
            return arrays - 1;
        }

        private void fail(int why, long number) {
            status = FAILED;
            failure = why;
            failNumber = number;
            open = 0;
        }

        int run(int n) {
            int done = 0;
            while (done < n && status == RUNS) {
                done++;
                steps++;
                doAct();
            }
            return done;
        }

        private void push(long value) {
            int at = 4 * (open - 1);
            int place = ROOM * (open - 1) + LOCALS + frames[at + 3];
            if (frames[at + 3] < ROOM - LOCALS && place < values.length) {
                values[place] = value;
                frames[at + 3]++;
            }
        }

        private long pop() {
            int at = 4 * (open - 1);
            if (frames[at + 3] == 0) {
                return 0;
            }
            frames[at + 3]--;
            return values[ROOM * (open - 1) + LOCALS + frames[at + 3]];
        }

        private void doAct() {
            int at = 4 * (open - 1);
            Form form = forms[frames[at]];
            int place = frames[at + 2];
            int op = form.u1(place);
            frames[at + 2] = place + Form.sizeAt(form.bytes, place);
            if (op < 7) {
                doLocal(form, place, op);
            } else if (op < 9) {
                doField(form, form.u2(place + 1), op);
            } else if (op < 20) {
                doNumbers(op);
            } else if (op < 24) {
                doTurn(op);
            } else if (op < EARLIEST_IF) {
                doArray(op);
            } else if (op <= JUMP) {
                doJump(form, place, op);
            } else if (op == SWITCH) {
                doSwitch(form, place);
            } else if (op == CALL) {
                doCall(form, form.u2(place + 1));
            } else if (op == FAIL) {
                fail(7, pop());
            } else {
                comeBack(op == GIVE ? pop() : 0, op == GIVE);
            }
        }

        private void doLocal(Form form, int place, int op) {
            int local = ROOM * (open - 1) + form.u1(place + 1);
            if (op == 1) {
                push((byte) form.u1(place + 1));
            } else if (op == 2) {
                push(form.number(form.u2(place + 1)));
            } else if (op == 3) {
                push(NONE);
            } else if (op > 3 && local < values.length) {
                if (op == 4) {
                    push(values[local]);
                } else if (op == 5) {
                    values[local] = pop();
                } else {
                    values[local] += (byte) form.u1(place + 2);
                }
            }
        }

        /** The file of an entry's owner, NONE without. */
        private int owner(Form form, int entry) {
            int name = form.owner(entry);
            for (int f = 0; f < files; f++) {
                if (forms[f].sameName(forms[f].fileName(), form, name)) {
                    return f;
                }
            }
            return NONE;
        }

        private void doField(Form form, int entry, int op) {
            int f = owner(form, entry);
            int i = f < 0 ? NONE : forms[f].fieldLike(form, entry);
            if (i < 0 || i >= fields[f].length) {
                fail(5, 0);
            } else if (op == 7) {
                push(fields[f][i]);
            } else {
                fields[f][i] = pop();
            }
        }

        private void doNumbers(int op) {
            long y = pop();
            long x = op == 19 ? 0 : pop();
            switch (op) {
                case 9: push(x + y); break;
                case 10: push(x - y); break;
                case 11: push(x * y); break;
                case 14: push(x & y); break;
                case 15: push(x | y); break;
                case 16: push(x ^ y); break;
                case 17: push(x << y); break;
                case 18: push(x >> y); break;
                case 19: push(-y); break;
                default:
                    if (y == 0) {
                        fail(1, 0);
                    } else {
                        push(op == 12 ? x / y : x % y);
                    }
                    break;
            }
        }

        private void doTurn(int op) {
            long y = pop();
            if (op == 21) {
                push(y);
                push(y);
            } else if (op > 21) {
                long x = pop();
                push(y);
                push(x);
                if (op == 23) {
                    push(y);
                }
            }
        }

        private void doArray(int op) {
            if (op == 24) {
                long n = pop();
                int array = n < 0 || n > ARRAY_MOST ? NONE : newArray((int) n);
                if (array < 0) {
                    fail(4, 0);
                } else {
                    push(array);
                }
                return;
            }
            long value = op == 26 ? pop() : 0;
            long index = op == 27 ? 0 : pop();
            long array = pop();
            if (array < 0 || array >= arrays) {
                fail(2, 0);
            } else if (op == 27) {
                push(size((int) array));
            } else if (index < 0 || index >= size((int) array)) {
                fail(3, 0);
            } else if (op == 25) {
                push(cell((int) array, (int) index));
            } else {
                cells[arrayAt[(int) array] + (int) index] = value;
            }
        }

        private void doJump(Form form, int place, int op) {
            long y = op < 34 ? pop() : op == 40 || op == 41 ? NONE : 0;
            long x = op == JUMP ? 0 : pop();
            boolean goes;
            switch (op < 34 ? op - 28 : op < 40 ? op - 34 : op - 40) {
                case 0: goes = x == y; break;
                case 1: goes = x != y; break;
                case 2: goes = op == JUMP || x < y; break;
                case 3: goes = x <= y; break;
                case 4: goes = x > y; break;
                default: goes = x >= y; break;
            }
            if (goes) {
                goTo(form.u2(place + 1));
            }
        }

        private void goTo(int target) {
            int at = 4 * (open - 1);
            frames[at + 2] = forms[frames[at]].codeAt(frames[at + 1]) + target;
        }

        private void doSwitch(Form form, int place) {
            long value = pop();
            int target = form.u2(place + 1);
            for (int k = 0; k < form.u1(place + 3); k++) {
                if (form.s4(place + 4 + 6 * k) == value) {
                    target = form.u2(place + 8 + 6 * k);
                }
            }
            goTo(target);
        }

        private void doCall(Form form, int entry) {
            int f = owner(form, entry);
            int m = f < 0 ? NONE : forms[f].memberLike(form, entry, true);
            if (m < 0) {
                fail(5, 0);
            } else if (open >= CALLS_MOST) {
                fail(6, 0);
            } else {
                int n = form.length(form.signOf(entry));
                int from = ROOM * (open - 1) + LOCALS + frames[4 * open - 1] - n;
                frames[4 * open - 1] -= n;
                enter(f, m);
                System.arraycopy(values, from, values, ROOM * (open - 1), n);
            }
        }

        private void comeBack(long given, boolean gives) {
            open--;
            if (open == 0) {
                status = CAME_BACK;
                result = given;
            } else if (gives) {
                push(given);
            }
        }
    }
}
