public final class SilkWord {
    public static final int UNKNOWN = -1, OUTSIDE = -2, STATE = -3, FULL = -4, NONE = -9;
    public static final long LOST = Long.MIN_VALUE;

    private static final int NO_FAULT = 0, NULL = 1, CAST = 2, INDEX = 3, SIZE = 4;
    private static final int SHEETS = 4, LANES = 3, MOST_CELLS = 60;
    private static final int SUBJECT = 0, COURTIER = 1, TAILOR = 2;
    private static final int FEWEST_PERSONS = 2, MOST_PERSONS = 7;
    private static final int DAYS = 40, LAST_DAY = DAYS - 1;
    private static final int MOST_WORDS = 6, MOST_WHISPERS = 6, MOST_READINGS = 8, MOST_ASKED = 20;

    private final Sheet[] sheets;
    private final Street people;
    private final Talk talk;
    private final Days days;
    private final Readings readings;
    private final Trials trials;
    private final Trace left;
    private int latestFault;

    public SilkWord() {
        sheets = new Sheet[SHEETS];
        for (int k = 0; k < SHEETS; k++) {
            sheets[k] = new Sheet();
        }
        people = new Street();
        talk = new Talk();
        days = new Days();
        readings = new Readings();
        trials = new Trials(people, talk, readings);
        left = new Trace();
        latestFault = NO_FAULT;
    }

    // ---- 1 the street

    public int street(int sheet, int lane, int i, int n) {
        latestFault = NO_FAULT;
        Sheet row = sheetAt(sheet);
        if (row == null) {
            return UNKNOWN;
        }
        if (!isLane(lane)) {
            return OUTSIDE;
        }
        int found = row.faultOfTaking(lane, i, n);
        if (found != NO_FAULT) {
            return faulted(found);
        }
        int wrong = Street.firstWrong(row, i, n);
        if (wrong != NONE) {
            return -100 - wrong;
        }
        people.settle(row, i, n);
        talk.clear();
        readings.clear();
        return people.size();
    }

    public int ofPerson(int p, int what) {
        Subject person = people.at(p);
        if (person == null) {
            return UNKNOWN;
        }
        switch (what) {
            case 0:
                return person.kind();
            case 1:
                return person.loses;
            case 2:
                return person.ear;
            case 3:
                return person.dares();
            case 4:
                return talk.bribed(p) ? 1 : 0;
            default:
                return OUTSIDE;
        }
    }

    public int word(int place, int day) {
        if (!people.has(place)) {
            return UNKNOWN;
        }
        if (!isDay(day)) {
            return OUTSIDE;
        }
        if (talk.words() >= MOST_WORDS) {
            return FULL;
        }
        talk.addWord(place, day);
        return talk.words() - 1;
    }

    public int unsay(int k) {
        if (k < 0 || k > talk.words()) {
            return OUTSIDE;
        }
        talk.dropWords(k);
        return talk.words();
    }

    public int bribe(int p, boolean is) {
        if (!people.has(p)) {
            return UNKNOWN;
        }
        if (talk.bribed(p) == is) {
            return 0;
        }
        talk.setBribed(talk.bribedSet() ^ 1 << p);
        return 1;
    }

    public int whisper(int a, int b) {
        if (!people.has(a) || !people.has(b) || a == b) {
            return UNKNOWN;
        }
        if (talk.whispersKept() >= MOST_WHISPERS) {
            return FULL;
        }
        talk.addWhisper(a, b);
        return talk.whispersKept() - 1;
    }

    public int forget(int k) {
        if (k < 0 || k > talk.whispersKept()) {
            return OUTSIDE;
        }
        talk.dropWhispers(k);
        return talk.whispersKept();
    }

    // ---- 2 days

    public int says(int p) {
        if (!people.has(p)) {
            return UNKNOWN;
        }
        days.pass(people, talk);
        return days.firstWith(p);
    }

    public int crowd(int day) {
        if (!isDay(day)) {
            return OUTSIDE;
        }
        if (people.isEmpty()) {
            return STATE;
        }
        days.pass(people, talk);
        return days.saidBy(day);
    }

    public int heard(int p, int day, int what) {
        if (!people.has(p)) {
            return UNKNOWN;
        }
        if (!isDay(day) || what < 0 || what > 1) {
            return OUTSIDE;
        }
        days.pass(people, talk);
        int persons = days.saidBy(day - 1) & people.inEar(p);
        if (what == 0) {
            return persons;
        }
        return Integer.bitCount(persons) + talk.reaching(p, people.inEar(p), day);
    }

    // ---- 3 silence, words, bribes

    public int silence() {
        if (people.isEmpty()) {
            return STATE;
        }
        days.pass(people, talk);
        return days.saidBy(LAST_DAY) == 0 ? 1 : 0;
    }

    public int noticed() {
        if (people.isEmpty()) {
            return STATE;
        }
        days.pass(people, talk);
        return days.firstWithHalfOf(people.size());
    }

    public int fewest() {
        if (people.isEmpty()) {
            return STATE;
        }
        return trials.fewestWords();
    }

    public int bribes(int p) {
        if (!people.has(p)) {
            return UNKNOWN;
        }
        return trials.fewestBribes(p);
    }

    public int whispers(int what) {
        if (what < 0 || what > 1) {
            return OUTSIDE;
        }
        if (people.isEmpty()) {
            return STATE;
        }
        int pair = trials.bestWhisper();
        return what == 0 ? pair : trials.countWithWhisper(pair);
    }

    public int worth(int k) {
        if (k < 0 || k >= talk.words()) {
            return UNKNOWN;
        }
        return 100 + trials.fewerWithout(k);
    }

    public int asked(int sheet, int lane, int i, int n) {
        latestFault = NO_FAULT;
        Sheet row = sheetAt(sheet);
        if (row == null) {
            return UNKNOWN;
        }
        if (!isLane(lane)) {
            return OUTSIDE;
        }
        if (people.isEmpty()) {
            return STATE;
        }
        int found = row.faultOfTaking(lane, i, n);
        if (found != NO_FAULT) {
            return faulted(found);
        }
        if (n > MOST_ASKED) {
            return OUTSIDE;
        }
        return sayingInTurn(row, i, n);
    }

    private int sayingInTurn(Sheet row, int from, int n) {
        int met = 0;
        int said = 0;
        for (int turn = 0; turn < n; turn++) {
            int p = row.at(from + turn);
            if (!people.has(p) || isIn(met, p)) {
                return UNKNOWN;
            }
            met |= 1 << p;
            int held = Integer.bitCount(said & people.inEar(p)) + talk.reaching(p, people.inEar(p), 0);
            if (!talk.bribed(p) && held >= people.dares(p)) {
                said |= 1 << p;
            }
        }
        return said;
    }

    // ---- 4 what was said

    public int reading(int p, int day, boolean had) {
        if (!people.has(p)) {
            return UNKNOWN;
        }
        if (!isDay(day)) {
            return OUTSIDE;
        }
        if (readings.size() >= MOST_READINGS) {
            return FULL;
        }
        readings.add(p, day, had);
        return readings.size() - 1;
    }

    public int back(int k) {
        if (k < 0 || k > readings.size()) {
            return OUTSIDE;
        }
        readings.drop(k);
        return readings.size();
    }

    public int where(int day) {
        if (!isDay(day)) {
            return OUTSIDE;
        }
        if (people.isEmpty()) {
            return STATE;
        }
        return trials.placesThatFit(day);
    }

    public int paid() {
        if (people.isEmpty()) {
            return STATE;
        }
        return trials.bribesThatFit();
    }

    public long odds(int p, int day, int which) {
        if (!people.has(p) || !isDay(day) || which < 0 || which > 1) {
            return LOST;
        }
        return trials.shareOfSaying(p, day, which == 0);
    }

    // ---- 5 sheets, parts

    public int sheet(int k, int lane, int n) {
        latestFault = NO_FAULT;
        Sheet row = sheetAt(k);
        if (row == null) {
            return UNKNOWN;
        }
        if (!isLane(lane) || n > MOST_CELLS) {
            return OUTSIDE;
        }
        if (n < 0) {
            return faulted(SIZE);
        }
        row.renew(lane, n);
        return 1;
    }

    public int lose(int k) {
        Sheet row = sheetAt(k);
        if (row == null) {
            return UNKNOWN;
        }
        if (row.isNothing()) {
            return 0;
        }
        row.drop();
        return 1;
    }

    public int put(int k, int i, int v) {
        latestFault = NO_FAULT;
        Sheet row = sheetAt(k);
        if (row == null) {
            return UNKNOWN;
        }
        if (row.isNothing()) {
            return faulted(NULL);
        }
        if (!row.hasCell(i)) {
            return faulted(INDEX);
        }
        row.set(i, v);
        return 1;
    }

    public long cell(int k, int i, int lane) {
        latestFault = NO_FAULT;
        Sheet row = sheetAt(k);
        if (row == null || !isLane(lane)) {
            return LOST;
        }
        latestFault = row.faultOfLane(lane);
        if (latestFault != NO_FAULT) {
            return LOST;
        }
        if (!row.hasCell(i)) {
            latestFault = INDEX;
            return LOST;
        }
        return row.at(i);
    }

    public int copy(int k, int i, int other, int j, int n) {
        latestFault = NO_FAULT;
        Sheet from = sheetAt(k);
        Sheet to = sheetAt(other);
        if (from == null || to == null) {
            return UNKNOWN;
        }
        if (from.isNothing() || to.isNothing()) {
            return faulted(NULL);
        }
        if (from.faultOfLane(to.lane()) != NO_FAULT) {
            return faulted(CAST);
        }
        if (!from.hasCells(i, n) || !to.hasCells(j, n)) {
            return faulted(INDEX);
        }
        to.takeCells(j, from, i, n);
        return n;
    }

    public int tell(int p) {
        Subject person = people.at(p);
        return person == null ? UNKNOWN : person.told(left);
    }

    public int bow(int p) {
        Subject person = people.at(p);
        return person == null ? UNKNOWN : person.bowedTo(left);
    }

    public int as(int p, int kind) {
        latestFault = NO_FAULT;
        Subject person = people.at(p);
        if (person == null) {
            return UNKNOWN;
        }
        if (kind < SUBJECT || kind > TAILOR) {
            return OUTSIDE;
        }
        // Each kind is one of every kind with a lower number.
        return person.kind() >= kind ? 1 : faulted(CAST);
    }

    public int trace() {
        return left.number();
    }

    public int fault() {
        return latestFault;
    }

    public int many(int what) {
        switch (what) {
            case 0:
                return people.size();
            case 1:
                return talk.words();
            case 2:
                return talk.whispersKept();
            case 3:
                return readings.size();
            default:
                return OUTSIDE;
        }
    }

    private Sheet sheetAt(int k) {
        return k < 0 || k >= sheets.length ? null : sheets[k];
    }

    private int faulted(int number) {
        latestFault = number;
        return -10 - number;
    }

    private static boolean isLane(int lane) {
        return lane >= 0 && lane < LANES;
    }

    private static boolean isDay(int day) {
        return day >= 0 && day < DAYS;
    }

    private static boolean isIn(int set, int k) {
        return (set >> k & 1) != 0;
    }

    /** Keeps its cells as ints, whatever its lane, so that a new row needs no new array. */
    private static final class Sheet {
        private static final int BYTES = 0, SHORTS = 1;

        private final int[] cells = new int[MOST_CELLS];
        private boolean filled;
        private int lane;
        private int size;

        boolean isNothing() {
            return !filled;
        }

        int lane() {
            return lane;
        }

        void renew(int newLane, int newSize) {
            for (int i = 0; i < cells.length; i++) {
                cells[i] = 0;
            }
            filled = true;
            lane = newLane;
            size = newSize < 0 ? 0 : Math.min(newSize, cells.length);
        }

        void drop() {
            filled = false;
            size = 0;
        }

        boolean hasCell(int i) {
            return i >= 0 && i < size;
        }

        boolean hasCells(int from, int n) {
            // As a difference: from + n might wrap.
            return from >= 0 && from <= size && n >= 0 && n <= size - from;
        }

        int at(int i) {
            return hasCell(i) ? cells[i] : 0;
        }

        void set(int i, int v) {
            if (hasCell(i)) {
                cells[i] = cut(v);
            }
        }

        void takeCells(int to, Sheet other, int from, int n) {
            if (hasCells(to, n) && other.hasCells(from, n)) {
                System.arraycopy(other.cells, from, cells, to, n);
            }
        }

        int faultOfLane(int asLane) {
            if (!filled) {
                return NULL;
            }
            return asLane == lane ? NO_FAULT : CAST;
        }

        int faultOfTaking(int asLane, int from, int n) {
            int found = faultOfLane(asLane);
            if (found != NO_FAULT) {
                return found;
            }
            if (n < 0) {
                return SIZE;
            }
            return hasCells(from, n) ? NO_FAULT : INDEX;
        }

        private int cut(int v) {
            if (lane == BYTES) {
                return (byte) v;
            }
            return lane == SHORTS ? (short) v : v;
        }
    }

    /** What the bodies of telling and bowing leave behind. */
    private static final class Trace {
        private int number;

        void leave(int body) {
            number = 31 * number + body;
        }

        int number() {
            return number;
        }
    }

    private static class Subject {
        final int place;
        final int loses;
        final int ear;

        Subject(int place, int loses, int ear) {
            this.place = place;
            this.loses = loses;
            this.ear = ear;
        }

        int kind() {
            return SUBJECT;
        }

        int dares() {
            return loses;
        }

        int told(Trace trace) {
            return toldAsSubject(trace);
        }

        // Stands apart, so that a tailor comes to it past the courtier's body.
        final int toldAsSubject(Trace trace) {
            trace.leave(1);
            return loses;
        }

        int bowedTo(Trace trace) {
            trace.leave(4);
            return place;
        }
    }

    private static class Courtier extends Subject {
        Courtier(int place, int loses, int ear) {
            super(place, loses, ear);
        }

        int kind() {
            return COURTIER;
        }

        int dares() {
            return super.dares() + 1;
        }

        int told(Trace trace) {
            trace.leave(2);
            return super.told(trace) + 100;
        }
    }

    private static final class Tailor extends Courtier {
        Tailor(int place, int loses, int ear) {
            super(place, loses, ear);
        }

        int kind() {
            return TAILOR;
        }

        int dares() {
            return 2 * super.dares();
        }

        int told(Trace trace) {
            trace.leave(3);
            int asCourtier = super.told(trace);
            return asCourtier + toldAsSubject(trace);
        }

        int bowedTo(Trace trace) {
            trace.leave(5);
            return 90;
        }
    }

    /** The persons in their row, and the text that tells them. */
    private static final class Street {
        private static final int CODES_A_PERSON = 4;

        private final Subject[] persons = new Subject[MOST_PERSONS];
        private final int[] ears = new int[MOST_PERSONS];
        private final int[] dared = new int[MOST_PERSONS];
        private int size;

        /** The place of the first fault of a text; NONE: it has none. */
        static int firstWrong(Sheet row, int from, int n) {
            for (int place = 0; place < n; place++) {
                if (!goesOn(place, row.at(from + place))) {
                    return place;
                }
            }
            boolean whole = n > FEWEST_PERSONS * CODES_A_PERSON && n % CODES_A_PERSON == 1;
            return whole ? NONE : n;
        }

        private static boolean goesOn(int place, int code) {
            if (place == 0) {
                return code == 'n';
            }
            switch (place % CODES_A_PERSON) {
                case 1:
                    return code == ';' && place < MOST_PERSONS * CODES_A_PERSON;
                case 2:
                    return code == 's' || code == 'c' || code == 't';
                case 3:
                    return code >= '0' && code <= '5';
                default:
                    return code >= '0' && code <= '6';
            }
        }

        /** Takes a text without a fault. */
        void settle(Sheet row, int from, int n) {
            size = Math.min(n / CODES_A_PERSON, MOST_PERSONS);
            for (int p = 0; p < size; p++) {
                int letter = from + 2 + p * CODES_A_PERSON;
                Subject person = born(row.at(letter), p, row.at(letter + 1) - '0', row.at(letter + 2) - '0');
                persons[p] = person;
                ears[p] = placesWithin(p, person.ear);
                dared[p] = person.dares();
            }
        }

        private static Subject born(int letter, int place, int loses, int ear) {
            if (letter == 't') {
                return new Tailor(place, loses, ear);
            }
            return letter == 'c' ? new Courtier(place, loses, ear) : new Subject(place, loses, ear);
        }

        private int placesWithin(int place, int ear) {
            int set = 0;
            for (int other = 0; other < size; other++) {
                if (Math.abs(other - place) <= ear) {
                    set |= 1 << other;
                }
            }
            return set;
        }

        boolean isEmpty() {
            return size == 0;
        }

        int size() {
            return size;
        }

        int everyone() {
            return (1 << size) - 1;
        }

        boolean has(int p) {
            return p >= 0 && p < size;
        }

        Subject at(int p) {
            return has(p) ? persons[p] : null;
        }

        int inEar(int p) {
            return p >= 0 && p < size ? ears[p] : 0;
        }

        int dares(int p) {
            return p >= 0 && p < size ? dared[p] : 0;
        }
    }

    /** Words, whispers and bribes: those that are, or those of a trial, which may have more. */
    private static final class Talk {
        private final int[] places = new int[MOST_WORDS + MOST_PERSONS];
        private final int[] days = new int[MOST_WORDS + MOST_PERSONS];
        private final int[] ones = new int[MOST_WHISPERS + 1];
        private final int[] others = new int[MOST_WHISPERS + 1];
        private int words;
        private int whisperCount;
        private int bribedSet;

        void clear() {
            words = 0;
            whisperCount = 0;
            bribedSet = 0;
        }

        void takeAll(Talk from) {
            clear();
            for (int k = 0; k < from.words; k++) {
                addWord(from.places[k], from.days[k]);
            }
            for (int k = 0; k < from.whisperCount; k++) {
                addWhisper(from.ones[k], from.others[k]);
            }
            bribedSet = from.bribedSet;
        }

        int words() {
            return words;
        }

        void addWord(int place, int day) {
            if (words < places.length) {
                places[words] = place;
                days[words] = day;
                words++;
            }
        }

        void dropWords(int k) {
            words = Math.max(0, words - k);
        }

        void dropWordAt(int k) {
            for (int next = k + 1; k >= 0 && next < words; next++) {
                places[next - 1] = places[next];
                days[next - 1] = days[next];
            }
            dropWords(1);
        }

        /** The days on which words fall, as a set. */
        long daysOfWords() {
            long set = 0;
            for (int k = 0; k < words; k++) {
                set |= 1L << days[k];
            }
            return set;
        }

        int whispersKept() {
            return whisperCount;
        }

        void addWhisper(int a, int b) {
            if (whisperCount < ones.length) {
                ones[whisperCount] = a;
                others[whisperCount] = b;
                whisperCount++;
            }
        }

        void dropWhispers(int k) {
            whisperCount = Math.max(0, whisperCount - k);
        }

        boolean bribed(int p) {
            return isIn(bribedSet, p);
        }

        int bribedSet() {
            return bribedSet;
        }

        void setBribed(int set) {
            bribedSet = set;
        }

        /** What a person holds on a day but for persons: words at places in its ear, and its whispers. */
        int reaching(int p, int inEar, int day) {
            int count = 0;
            for (int k = 0; k < words; k++) {
                if (days[k] <= day) {
                    count += inEar >> places[k] & 1;
                }
            }
            for (int k = 0; k < whisperCount; k++) {
                if (ones[k] == p || others[k] == p) {
                    count++;
                }
            }
            return count;
        }
    }

    /** Who has said it as each day ends. */
    private static final class Days {
        private final int[] said = new int[DAYS];
        private final int[] reached = new int[MOST_PERSONS];

        void pass(Street people, Talk talk) {
            long daysOfWords = talk.daysOfWords();
            int soFar = 0;
            boolean stirred = true;
            for (int day = 0; day < DAYS; day++) {
                boolean fresh = day == 0 || (daysOfWords >> day & 1) != 0;
                if (fresh) {
                    reach(people, talk, day);
                }
                // Nothing is held on a still day that was not held on the day ahead.
                if (fresh || stirred) {
                    int speaking = speaking(people, talk, soFar);
                    stirred = speaking != 0;
                    soFar |= speaking;
                }
                said[day] = soFar;
            }
        }

        private void reach(Street people, Talk talk, int day) {
            for (int p = 0; p < people.size() && p < reached.length; p++) {
                reached[p] = talk.reaching(p, people.inEar(p), day);
            }
        }

        private int speaking(Street people, Talk talk, int soFar) {
            int may = people.everyone() & ~soFar & ~talk.bribedSet();
            int set = 0;
            for (int p = 0; p < people.size() && p < reached.length; p++) {
                int held = Integer.bitCount(soFar & people.inEar(p)) + reached[p];
                if (isIn(may, p) && held >= people.dares(p)) {
                    set |= 1 << p;
                }
            }
            return set;
        }

        /** Ahead of the first day nobody has said it. */
        int saidBy(int day) {
            return isDay(day) ? said[day] : 0;
        }

        int firstWith(int p) {
            for (int day = 0; day < DAYS; day++) {
                if (isIn(said[day], p)) {
                    return day;
                }
            }
            return NONE;
        }

        int firstWithHalfOf(int persons) {
            for (int day = 0; day < DAYS; day++) {
                if (2 * Integer.bitCount(said[day]) >= persons) {
                    return day;
                }
            }
            return NONE;
        }
    }

    private static final class Readings {
        private final int[] persons = new int[MOST_READINGS];
        private final int[] days = new int[MOST_READINGS];
        private final boolean[] had = new boolean[MOST_READINGS];
        private int size;

        void clear() {
            size = 0;
        }

        int size() {
            return size;
        }

        void add(int p, int day, boolean hadSaid) {
            if (size < MOST_READINGS) {
                persons[size] = p;
                days[size] = day;
                had[size] = hadSaid;
                size++;
            }
        }

        void drop(int k) {
            size = Math.max(0, size - k);
        }

        boolean areAllSo(Days passed) {
            for (int k = 0; k < size; k++) {
                if (isIn(passed.saidBy(days[k]), persons[k]) != had[k]) {
                    return false;
                }
            }
            return true;
        }
    }

    /** What would be, if something were otherwise; what is stays as it is. */
    private static final class Trials {
        private final Street people;
        private final Talk talk;
        private final Readings readings;
        private final Talk tried = new Talk();
        private final Days days = new Days();

        Trials(Street people, Talk talk, Readings readings) {
            this.people = people;
            this.talk = talk;
            this.readings = readings;
        }

        int fewestWords() {
            int best = NONE;
            for (int set = 0; set <= people.everyone(); set++) {
                if (isFewer(set, best) && allSayWithWordsAt(set)) {
                    best = set;
                }
            }
            return best;
        }

        private boolean allSayWithWordsAt(int places) {
            tried.takeAll(talk);
            for (int place = 0; place < people.size(); place++) {
                if (isIn(places, place)) {
                    tried.addWord(place, 0);
                }
            }
            return (sayAtLast() | talk.bribedSet()) == people.everyone();
        }

        int fewestBribes(int p) {
            int best = NONE;
            for (int set = 0; set <= people.everyone(); set++) {
                if (!isIn(set, p) && isFewer(set, best)) {
                    tried.takeAll(talk);
                    tried.setBribed(talk.bribedSet() | set);
                    best = isIn(sayAtLast(), p) ? best : set;
                }
            }
            return best;
        }

        /** Sets come from the least on: one of as many is no better. */
        private static boolean isFewer(int set, int best) {
            return best == NONE || Integer.bitCount(set) < Integer.bitCount(best);
        }

        /** 10 times a, and b; NONE: by no whisper more say it. */
        int bestWhisper() {
            int best = NONE;
            int most = countNow();
            for (int a = 0; a < people.size(); a++) {
                for (int b = a + 1; b < people.size(); b++) {
                    int count = countWithWhisper(10 * a + b);
                    if (count > most) {
                        most = count;
                        best = 10 * a + b;
                    }
                }
            }
            return best;
        }

        int countWithWhisper(int pair) {
            if (pair == NONE) {
                return countNow();
            }
            tried.takeAll(talk);
            tried.addWhisper(pair / 10, pair % 10);
            return Integer.bitCount(sayAtLast());
        }

        private int countNow() {
            tried.takeAll(talk);
            return Integer.bitCount(sayAtLast());
        }

        int fewerWithout(int word) {
            int count = countNow();
            tried.takeAll(talk);
            tried.dropWordAt(word);
            return count - Integer.bitCount(sayAtLast());
        }

        int placesThatFit(int day) {
            int set = 0;
            for (int place = 0; place < people.size(); place++) {
                tried.takeAll(talk);
                tried.addWord(place, day);
                days.pass(people, tried);
                if (readings.areAllSo(days)) {
                    set |= 1 << place;
                }
            }
            return set;
        }

        int bribesThatFit() {
            int set = 0;
            for (int p = 0; p < people.size(); p++) {
                tried.takeAll(talk);
                tried.setBribed(talk.bribedSet() | 1 << p);
                days.pass(people, tried);
                if (readings.areAllSo(days)) {
                    set |= 1 << p;
                }
            }
            return set;
        }

        int shareOfSaying(int p, int day, boolean isUpper) {
            int upper = 0;
            tried.takeAll(talk);
            for (int set = 0; set <= people.everyone(); set++) {
                tried.setBribed(set);
                days.pass(people, tried);
                upper += isIn(days.saidBy(day), p) ? 1 : 0;
            }
            int lower = people.everyone() + 1;
            // There are 2 to the power of the persons' number of sets: only twos can be in both.
            for (int two = 0; two < people.size() && upper % 2 == 0; two++) {
                upper /= 2;
                lower /= 2;
            }
            return isUpper ? upper : lower;
        }

        private int sayAtLast() {
            days.pass(people, tried);
            return days.saidBy(LAST_DAY);
        }
    }
}
