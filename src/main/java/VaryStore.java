import java.util.NoSuchElementException;

/**
 * What a cache may answer with: things kept by the headers on which they hang.
 * The words in great letters (TEXT, LIST, THING ..) are the document's terms.
 */
public final class VaryStore {
    public static final int NONE = -1;

    private static final int TAPE_ROOM = 300;
    // The shortest LINE is "a:" and its end, the shortest item of a LIST a letter and a comma.
    private static final int MOST_LINES = TAPE_ROOM / 3;
    private static final int MOST_ITEMS = TAPE_ROOM / 2;
    private static final int MOST_NAME_LETTERS = 16;
    private static final int MOST_DIGITS = 6;
    private static final int MOST_THINGS = 24;
    private static final int PATHS = 16;
    private static final int MOST_SECONDS = 100000;
    private static final int LAST_TIME = 1000000000;
    private static final char LINE_END = 10;

    private static final int MISS = 0;
    private static final int SERVED_FRESH = 1;
    private static final int SERVED_STALE = 2;
    private static final int AGAIN = 3;
    private static final int REFUSED = 4;

    // What a cache-control says of a WORD, if it does not tell a NUMBER (which is never below 0).
    private static final int WITHOUT_NUMBER = -1;
    private static final int ABSENT = -2;

    private final Row tape = new Row();
    private final Shelf shelf = new Shelf();
    private Text request = new Text();
    private Text draft = new Text();
    private int faultPlace = NONE;
    private int time = 0;

    // Rows that every call uses anew, so that no call has to make any.
    private final Row name = new Row();
    private final Row value = new Row();
    private final Items words = new Items();
    private final Items left = new Items();
    private final Items right = new Items();

    public VaryStore() {
    }

    public boolean type(long word, int n) {
        if (n < 1 || n > 8 || tape.length + n > TAPE_ROOM) {
            return false;
        }
        for (int k = 0; k < n; k++) {
            if (!mayBeTyped(byteOf(word, k))) {
                return false;
            }
        }
        for (int k = n - 1; k >= 0; k--) {
            tape.add((char) byteOf(word, k));
        }
        return true;
    }

    public int ask(int path) throws IllegalArgumentException {
        readTape(path);
        Text before = request;
        request = draft;
        draft = before;
        cutList(request, "cache-control", words);
        Thing one = shelf.at(placeOfTheOne(path));
        int answer = one == null ? MISS : judge(one);
        if (answer == SERVED_FRESH || answer == SERVED_STALE) {
            shelf.use(one);
            return answer;
        }
        return words.has("only-if-cached") ? REFUSED : answer;
    }

    public boolean keep(int path) throws IllegalArgumentException {
        readTape(path);
        Thing spare = shelf.spare();
        describe(spare, path);
        cutList(draft, "cache-control", words);
        spare.obey(words);
        startLife(spare);
        shelf.drop(placeOfSame(spare));
        if (!mayBeKept(spare)) {
            return false;
        }
        if (shelf.count >= MOST_THINGS) {
            shelf.drop(shelf.placeOfLongestUnused());
        }
        shelf.addSpare();
        return true;
    }

    public boolean again(int path) throws IllegalArgumentException {
        readTape(path);
        int place = placeOfTheOne(path);
        Thing one = shelf.at(place);
        if (one == null) {
            return false;
        }
        gather(draft, "etag");
        if (value.length > 0 && !value.same(one.etag)) {
            return false;
        }
        if (cutList(draft, "cache-control", words)) {
            one.obey(words);
        }
        startLife(one);
        shelf.putLast(place);
        return true;
    }

    public int fault() {
        return faultPlace;
    }

    public int purge(int path) {
        int gone = 0;
        for (int i = shelf.count - 1; i >= 0; i--) {
            Thing thing = shelf.at(i);
            if (thing != null && thing.path == path) {
                shelf.drop(i);
                gone++;
            }
        }
        return gone;
    }

    public int pass(int n) throws IllegalArgumentException {
        if (n < 1 || n > MOST_SECONDS || time + n > LAST_TIME) {
            throw new IllegalArgumentException("so many seconds can not go by");
        }
        time += n;
        return time;
    }

    public int thing(int i, int what) throws NoSuchElementException {
        Thing thing = shelf.at(i);
        if (thing == null) {
            throw new NoSuchElementException("there is no such thing");
        }
        switch (what) {
            case 0:
                return thing.path;
            case 1:
                return thing.ageAt(time);
            case 2:
                return thing.life;
            case 3:
                return thing.isFreshAt(time) ? 1 : 0;
            case 4:
                return thing.vary.count;
            case 5:
                return thing.etag.length;
            case 6:
                return thing.strict ? 1 : 0;
            default:
                return letterOfEtag(thing, what);
        }
    }

    public int things() {
        return shelf.count;
    }

    private static int letterOfEtag(Thing thing, int what) {
        if (what < 100 || what - 100 >= thing.etag.length) {
            throw new NoSuchElementException("a thing has nothing such");
        }
        return thing.etag.at(what - 100);
    }

    private static int byteOf(long word, int k) {
        return (int) (word >>> (8 * k)) & 255;
    }

    private static boolean mayBeTyped(int letter) {
        return letter == LINE_END || (letter >= 32 && letter <= 126);
    }

    /** The tape is read, and empty then, even if the PATH is wrong; a wrong TEXT is told first. */
    private void readTape(int path) {
        faultPlace = draft.read(tape);
        tape.clear();
        if (faultPlace != NONE) {
            throw new IllegalArgumentException("the text is wrong");
        }
        if (path < 0 || path >= PATHS) {
            throw new IllegalArgumentException("there is no such path");
        }
    }

    /** Puts the VALUE of a NAME into the row 'value'; false (and no letters) if it is not there. */
    private boolean gather(Text text, String wanted) {
        name.set(wanted);
        return text.gather(name, value);
    }

    private boolean cutList(Text text, String wanted, Items list) {
        boolean there = gather(text, wanted);
        list.cut(value);
        return there;
    }

    /** The NUMBER that the draft has as a VALUE, or NONE. */
    private int numberOf(String wanted) {
        gather(draft, wanted);
        return value.number(0, value.length);
    }

    /** What stays as it is when a thing is made again. */
    private void describe(Thing thing, int path) {
        thing.path = path;
        thing.request.copy(request);
        gather(draft, "etag");
        thing.etag.copy(value);
        cutList(draft, "vary", thing.vary);
        thing.vary.makeSmall();
    }

    /** LIFE and AGE from now on, as the thing's cache-control and the draft tell. */
    private void startLife(Thing thing) {
        int expires = numberOf("expires");
        int date = numberOf("date");
        if (thing.sharedMaxAge >= 0) {
            thing.life = thing.sharedMaxAge;
        } else if (thing.maxAge >= 0) {
            thing.life = thing.maxAge;
        } else if (expires != NONE && date != NONE) {
            thing.life = Math.max(0, expires - date);
        } else {
            thing.life = 0;
        }
        thing.age = Math.max(0, numberOf("age"));
        thing.since = time;
    }

    private boolean mayBeKept(Thing thing) {
        if (thing.secret || thing.vary.holds("*")) {
            return false;
        }
        cutList(request, "cache-control", words);
        if (words.has("no-store")) {
            return false;
        }
        return thing.life > 0 || thing.etag.length > 0;
    }

    private int placeOfSame(Thing wanted) {
        for (int i = 0; i < shelf.count; i++) {
            Thing thing = shelf.at(i);
            if (thing != null && thing.path == wanted.path
                    && thing.vary.same(wanted.vary) && isAlike(thing)) {
                return i;
            }
        }
        return NONE;
    }

    private int placeOfTheOne(int path) {
        for (int i = shelf.count - 1; i >= 0; i--) {
            Thing thing = shelf.at(i);
            if (thing != null && thing.path == path && isAlike(thing)) {
                return i;
            }
        }
        return NONE;
    }

    /** Whether the thing's VALUES are alike those of THE LATEST REQUEST. */
    private boolean isAlike(Thing thing) {
        for (int k = 0; k < thing.vary.count; k++) {
            thing.vary.copyItem(k, name);
            boolean had = thing.request.gather(name, value);
            left.cut(value);
            boolean has = request.gather(name, value);
            right.cut(value);
            if (had != has || !left.same(right)) {
                return false;
            }
        }
        return true;
    }

    /** How THE ONE may be served, as the REQUEST's WORDS (in 'words') ask. */
    private int judge(Thing one) {
        int age = one.ageAt(time);
        int maxAge = words.said("max-age");
        if (words.has("no-cache") || (maxAge >= 0 && age > maxAge)) {
            return AGAIN;
        }
        // A REQUEST with max-stale takes all that is FRESH, whatever its min-fresh.
        int maxStale = words.said("max-stale");
        if (one.isFreshAt(time)) {
            int minFresh = words.said("min-fresh");
            boolean enough = maxStale != ABSENT || minFresh < 0 || age + minFresh < one.life;
            return enough ? SERVED_FRESH : AGAIN;
        }
        if (maxStale == ABSENT || one.strict) {
            return AGAIN;
        }
        return maxStale == WITHOUT_NUMBER || age < one.life + maxStale ? SERVED_STALE : AGAIN;
    }

    /** Letters, at most as many as the tape has. */
    private static final class Row {
        private final char[] letters = new char[TAPE_ROOM];
        private int length = 0;

        void clear() {
            length = 0;
        }

        void add(char letter) {
            if (length < letters.length) {
                letters[length] = letter;
                length++;
            }
        }

        void addPart(Row other, int from, int to) {
            int more = to - from;
            if (from >= 0 && more > 0 && to <= other.length && length + more <= letters.length) {
                System.arraycopy(other.letters, from, letters, length, more);
                length += more;
            }
        }

        void set(String text) {
            length = 0;
            for (int i = 0; i < text.length(); i++) {
                add(text.charAt(i));
            }
        }

        void copy(Row other) {
            clear();
            addPart(other, 0, other.length);
        }

        /** The letter at a place; 0, which can not be typed, where there is none. */
        char at(int i) {
            return i >= 0 && i < length ? letters[i] : 0;
        }

        boolean same(Row other) {
            return length == other.length && samePart(0, other);
        }

        /** Whether the whole other row stands here from a place on. */
        boolean samePart(int from, Row other) {
            for (int i = 0; i < other.length; i++) {
                if (at(from + i) != other.at(i)) {
                    return false;
                }
            }
            return true;
        }

        void makeSmall(int from, int to) {
            for (int i = Math.max(0, from); i < to && i < length; i++) {
                letters[i] = small(letters[i]);
            }
        }

        int skipBlanks(int from, int to) {
            int i = from;
            while (i < to && at(i) == ' ') {
                i++;
            }
            return i;
        }

        int skipBlanksBack(int from, int to) {
            int i = to;
            while (i > from && at(i - 1) == ' ') {
                i--;
            }
            return i;
        }

        int number(int from, int to) {
            if (to - from < 1 || to - from > MOST_DIGITS) {
                return NONE;
            }
            int number = 0;
            for (int i = from; i < to; i++) {
                if (!isDigit(at(i))) {
                    return NONE;
                }
                number = number * 10 + (at(i) - '0');
            }
            return number;
        }

        static char small(char letter) {
            return letter >= 'A' && letter <= 'Z' ? (char) (letter + ('a' - 'A')) : letter;
        }

        static boolean isDigit(char letter) {
            return letter >= '0' && letter <= '9';
        }

        static boolean isOfName(char letter) {
            char small = small(letter);
            return (small >= 'a' && small <= 'z') || isDigit(letter) || letter == '-';
        }
    }

    /** A LIST: its items, parted by one comma each, and where each ends. */
    private static final class Items {
        private final Row row = new Row();
        private final int[] ends = new int[MOST_ITEMS];
        private int count = 0;

        void cut(Row value) {
            row.clear();
            count = 0;
            int from = 0;
            for (int i = 0; i <= value.length; i++) {
                if (i == value.length || value.at(i) == ',') {
                    addItem(value, from, i);
                    from = i + 1;
                }
            }
        }

        private void addItem(Row value, int from, int to) {
            int first = value.skipBlanks(from, to);
            int end = value.skipBlanksBack(first, to);
            if (first >= end || count >= ends.length) {
                return;
            }
            if (count > 0) {
                row.add(',');
            }
            row.addPart(value, first, end);
            ends[count] = row.length;
            count++;
        }

        int startOf(int k) {
            return k > 0 && k < count ? ends[k - 1] + 1 : 0;
        }

        int endOf(int k) {
            return k >= 0 && k < count ? ends[k] : 0;
        }

        void copyItem(int k, Row target) {
            target.clear();
            target.addPart(row, startOf(k), endOf(k));
        }

        void makeSmall() {
            row.makeSmall(0, row.length);
        }

        /** No item has a comma or no letters, so the same letters are the same items. */
        boolean same(Items other) {
            return row.same(other.row);
        }

        /** Whether one item is this text, letter by letter. */
        boolean holds(String text) {
            for (int k = 0; k < count; k++) {
                int start = startOf(k);
                if (endOf(k) - start == text.length() && begins(start, text)) {
                    return true;
                }
            }
            return false;
        }

        boolean has(String word) {
            return said(word) != ABSENT;
        }

        /** What is said of a WORD of cache-control: its NUMBER, WITHOUT_NUMBER or ABSENT. */
        int said(String word) {
            int last = ABSENT;
            for (int k = 0; k < count; k++) {
                int says = saysItem(startOf(k), endOf(k), word);
                if (says != ABSENT) {
                    last = says;
                }
            }
            return last;
        }

        private int saysItem(int start, int end, String word) {
            int behind = start + word.length();
            if (behind > end || !begins(start, word)) {
                return ABSENT;
            }
            if (behind == end) {
                return WITHOUT_NUMBER;
            }
            if (row.at(behind) != '=') {
                return ABSENT;
            }
            int number = row.number(behind + 1, end);
            return number == NONE ? ABSENT : number;
        }

        /** The text is in small letters; the row's great letters count as small ones. */
        private boolean begins(int start, String text) {
            for (int i = 0; i < text.length(); i++) {
                if (Row.small(row.at(start + i)) != text.charAt(i)) {
                    return false;
                }
            }
            return true;
        }
    }

    /** A TEXT that was read: its letters, and where its LINES are. */
    private static final class Text {
        private final Row row = new Row();
        private final int[] starts = new int[MOST_LINES];
        private final int[] colons = new int[MOST_LINES];
        private final int[] ends = new int[MOST_LINES];
        private int lines = 0;

        void copy(Text other) {
            row.copy(other.row);
            lines = Math.min(other.lines, MOST_LINES);
            System.arraycopy(other.starts, 0, starts, 0, lines);
            System.arraycopy(other.colons, 0, colons, 0, lines);
            System.arraycopy(other.ends, 0, ends, 0, lines);
        }

        /** Answers the first letter of the first wrong LINE, or NONE. */
        int read(Row tape) {
            row.copy(tape);
            lines = 0;
            int start = 0;
            for (int i = 0; i < row.length; i++) {
                if (row.at(i) == LINE_END) {
                    if (!addLine(start, i)) {
                        return start;
                    }
                    start = i + 1;
                }
            }
            return start < row.length ? start : NONE;
        }

        private boolean addLine(int start, int end) {
            int colon = start;
            while (colon < end && Row.isOfName(row.at(colon))) {
                colon++;
            }
            int letters = colon - start;
            if (colon >= end || row.at(colon) != ':' || letters < 1 || letters > MOST_NAME_LETTERS
                    || lines >= MOST_LINES) {
                return false;
            }
            row.makeSmall(start, colon);
            starts[lines] = start;
            colons[lines] = colon;
            ends[lines] = end;
            lines++;
            return true;
        }

        /** Puts the VALUES of a NAME, parted by commas, into a row; false if no LINE has it. */
        boolean gather(Row name, Row target) {
            boolean there = false;
            target.clear();
            for (int k = 0; k < lines && k < MOST_LINES; k++) {
                if (colons[k] - starts[k] == name.length && row.samePart(starts[k], name)) {
                    if (there) {
                        target.add(',');
                    }
                    int first = row.skipBlanks(colons[k] + 1, ends[k]);
                    target.addPart(row, first, row.skipBlanksBack(first, ends[k]));
                    there = true;
                }
            }
            return there;
        }
    }

    /** A THING, with all that it was kept by. */
    private static final class Thing {
        private final Row etag = new Row();
        private final Items vary = new Items();
        private final Text request = new Text();
        private int path = 0;
        // Of its cache-control, as it must be known if it is made again without one.
        private int sharedMaxAge = ABSENT;
        private int maxAge = ABSENT;
        // secret: it may not be KEPT; unsure: never FRESH; strict: not served when it is not FRESH.
        private boolean secret = false;
        private boolean unsure = false;
        private boolean strict = false;
        private int life = 0;
        private int age = 0;
        private int since = 0;
        private int used = 0;

        void obey(Items words) {
            sharedMaxAge = words.said("s-maxage");
            maxAge = words.said("max-age");
            secret = words.has("no-store") || words.has("private");
            unsure = words.has("no-cache");
            strict = unsure || sharedMaxAge != ABSENT
                    || words.has("must-revalidate") || words.has("proxy-revalidate");
        }

        int ageAt(int time) {
            return age + (time - since);
        }

        boolean isFreshAt(int time) {
            return !unsure && ageAt(time) < life;
        }
    }

    /**
     * The THINGS in the order in which they were KEPT. Behind them stand those that went, to be
     * used again; the last place is never a KEPT one's: there the next one is made ready.
     */
    private static final class Shelf {
        private final Thing[] all = new Thing[MOST_THINGS + 1];
        private int count = 0;
        private int uses = 0;

        Thing at(int i) {
            return i >= 0 && i < count ? all[i] : null;
        }

        Thing spare() {
            Thing spare = all[MOST_THINGS];
            if (spare == null) {
                spare = new Thing();
                all[MOST_THINGS] = spare;
            }
            return spare;
        }

        void addSpare() {
            if (count >= MOST_THINGS) {
                return;
            }
            Thing added = spare();
            all[MOST_THINGS] = all[count];
            all[count] = added;
            count++;
            use(added);
        }

        void use(Thing thing) {
            if (thing != null) {
                uses++;
                thing.used = uses;
            }
        }

        /** Nothing goes where nothing is KEPT (NONE). */
        void drop(int place) {
            if (place >= 0 && place < count) {
                moveToEnd(place);
                count--;
            }
        }

        /** Made again, it counts as KEPT now. */
        void putLast(int place) {
            if (place >= 0 && place < count) {
                use(all[place]);
                moveToEnd(place);
            }
        }

        private void moveToEnd(int place) {
            if (place < 0 || place >= count) {
                return;
            }
            Thing moved = all[place];
            for (int i = place; i + 1 < count; i++) {
                all[i] = all[i + 1];
            }
            all[count - 1] = moved;
        }

        int placeOfLongestUnused() {
            int found = NONE;
            int least = Integer.MAX_VALUE;
            for (int i = 0; i < count; i++) {
                Thing thing = all[i];
                if (thing != null && thing.used < least) {
                    found = i;
                    least = thing.used;
                }
            }
            return found;
        }
    }
}
