/** The order of precedence at a banquet of kings who arrive late. */
public final class KingsBanquet {

    /** There is no such king, seat or setting. */
    public static final int UNKNOWN = -1;
    /** Another argument is out of range. */
    public static final int BAD_VALUE = -2;
    /** There is no more room. */
    public static final int FULL = -3;
    /** This is not possible. */
    public static final int NOT_POSSIBLE = -4;
    /** There is no such thing; not an error. */
    public static final int NONE = -5;

    private static final int MOST_KINGS = 24;
    private static final int MOST_SEATS = 12;
    private static final int MOST_CROWN = 9;
    private static final int MOST_AGE = 120;
    private static final int LAST_ARRIVAL = 9999;
    private static final int MOST_MINUTES = 99;
    private static final int LAST_MINUTE = 99999;
    private static final int MOST_SIGNS = 60;
    private static final int MOST_STATES = 4;
    private static final int MOST_DUE_ROUNDS = 100;
    private static final int MOST_IF_ROUNDS = 30;
    /** Far above the 66 changes that the 12 seats can need. */
    private static final int MOST_CHANGES = 1000;

    // The facts of a king bear the numbers by which king() is asked.
    private static final int CROWN = 0;
    private static final int AGE = 1;
    private static final int MINUTE = 2;
    private static final int DOING = 3;
    private static final int SEAT = 4;
    private static final int PLACE = 5;
    private static final int TOASTS = 6;
    private static final int SLIGHTS = 7;
    private static final int ANGRY = 8;
    private static final int FACTS = 9;

    private static final int ANNOUNCED = 0;
    private static final int WAITS = 1;
    private static final int SITS = 2;
    private static final int LEFT = 3;

    private static final int SEATS = 0;
    private static final int INTERVAL = 1;
    private static final int ENVOYS = 2;
    private static final int PATIENCE = 3;

    private static final int STATES_COUNT = 15;
    private static final int TEXT_COUNT = 16;
    private static final int FAULT_BASE = -100;
    private static final int NO_STOP = -1;

    private final State now;
    /** Where acts are tried and futures are looked at, so that a refused act leaves no trace. */
    private final State draft;
    private final State snapshot;
    private final History history;
    private final Guests text;
    private boolean isKept;
    private int stopThing;
    private int stopError;

    /** Creates an empty table, at the minute 0. */
    public KingsBanquet() {
        now = new State();
        draft = new State();
        snapshot = new State();
        history = new History();
        text = new Guests();
        isKept = false;
        stopThing = NO_STOP;
        stopError = 0;
    }

    // ---- kings

    /** Announces a king; an act. */
    public int announce(int crown, int age, int minute) {
        draft.copyFrom(now);
        return settle(draft.invite(crown, age, minute));
    }

    /** Lets a king leave, or not come at all; an act. */
    public int leave(int king) {
        draft.copyFrom(now);
        return settle(draft.dismiss(king));
    }

    /** Lets two neighbours change their seats at once; an act. */
    public int send(int seat) {
        draft.copyFrom(now);
        return settle(draft.sendEnvoyTo(seat));
    }

    /** Sets a setting; an act. */
    public int set(int which, int value) {
        draft.copyFrom(now);
        return settle(draft.changeSetting(which, value));
    }

    /** Lets minutes pass; an act. */
    public int pass(int minutes) {
        draft.copyFrom(now);
        return settle(draft.letPass(minutes));
    }

    // ---- texts

    /** Types a character behind the text. */
    public int type(char character) {
        return text.add(character);
    }

    /** Empties the text. */
    public int clearText() {
        return text.empty();
    }

    /** Does all that the text tells, or nothing of it; one act. */
    public int perform() {
        int things = text.checkThings();
        if (things < 0) {
            return FAULT_BASE - text.place();
        }
        draft.copyFrom(now);
        text.rewind();
        for (int thing = 0; thing < things && text.readThing(); thing++) {
            int answer = doThing();
            if (answer < 0) {
                stopThing = thing;
                stopError = answer;
                return NOT_POSSIBLE;
            }
        }
        return settle(things);
    }

    /** Tells of the latest stop of perform(). */
    public int stopped(int what) {
        if (what < 0 || what > 1) {
            return BAD_VALUE;
        }
        if (stopThing == NO_STOP) {
            return NONE;
        }
        return what == 0 ? stopThing : stopError;
    }

    // ---- history

    /** Removes and restores the latest state of the history. */
    public int undo() {
        if (history.size() == 0) {
            return NONE;
        }
        history.takeBack(now);
        return history.size();
    }

    /** Takes a snapshot of the state. */
    public int keep() {
        snapshot.copyFrom(now);
        isKept = true;
        return now.sitting();
    }

    /** Restores the state of the snapshot; an act. */
    public int restore() {
        if (!isKept) {
            return NONE;
        }
        draft.copyFrom(snapshot);
        return settle(draft.sitting());
    }

    // ---- what is told

    /** Tells a fact of a king. */
    public int king(int king, int what) {
        if (!now.isKing(king)) {
            return UNKNOWN;
        }
        if (what < 0 || what >= FACTS) {
            return BAD_VALUE;
        }
        return now.tell(king, what);
    }

    /** Tells who sits at a seat. */
    public int seat(int seat) {
        if (seat < 0 || seat >= MOST_SEATS) {
            return UNKNOWN;
        }
        return now.sitterAt(seat);
    }

    /** Tells a king of those who wait. */
    public int waits(int rank) {
        if (rank < 0) {
            return BAD_VALUE;
        }
        return now.waiterAt(rank);
    }

    /** Tells why a king sits above another one. */
    public int reason(int king, int other) {
        if (!now.isKing(king) || !now.isKing(other)) {
            return UNKNOWN;
        }
        if (king == other) {
            return BAD_VALUE;
        }
        return now.whyAbove(king, other);
    }

    /** Tells in how many rounds no lesser king sits above a king. */
    public int dueIn(int king) {
        if (!now.isKing(king)) {
            return UNKNOWN;
        }
        if (now.tell(king, DOING) != SITS) {
            return NOT_POSSIBLE;
        }
        draft.copyFrom(now);
        for (int rounds = 0; rounds <= MOST_DUE_ROUNDS; rounds++) {
            if (!draft.isLesserAbove(king)) {
                return rounds;
            }
            draft.sendEnvoys(draft.setting(ENVOYS));
        }
        return NONE;
    }

    /** Tells at which seat a king who comes now would sit, if all sat in the order that is due. */
    public int dueSeat(int crown, int age) {
        if (!isCrown(crown) || !isAge(age)) {
            return BAD_VALUE;
        }
        return now.sittingAbove(worthOf(crown, age, MOST_KINGS));
    }

    /** Tells how many pairs of kings who sit are in the wrong order. */
    public int wrongPairs() {
        return now.wrongPairsOfTable();
    }

    /** Tells by how many changes of neighbours the table would be in order. */
    public int changesNeeded() {
        draft.copyFrom(now);
        return draft.sendEnvoys(MOST_CHANGES);
    }

    /** Finds the king who is slighted most, of those who sit. */
    public int mostSlighted() {
        return now.mostSlightedSitter();
    }

    /** Tells how many kings would leave in anger in rounds. */
    public int ifRounds(int rounds) {
        if (rounds < 1 || rounds > MOST_IF_ROUNDS) {
            return BAD_VALUE;
        }
        draft.copyFrom(now);
        for (int round = 0; round < rounds; round++) {
            draft.holdRound();
        }
        return draft.sum(ANGRY) - now.sum(ANGRY);
    }

    /** Finds the next minute for which kings are announced. */
    public int nextArrival() {
        return now.firstArrival();
    }

    /** Tells an account. */
    public int count(int what) {
        if (what < 0 || what > TEXT_COUNT) {
            return BAD_VALUE;
        }
        if (what == STATES_COUNT) {
            return history.size();
        }
        if (what == TEXT_COUNT) {
            return text.length();
        }
        return now.account(what);
    }

    /** Makes the draft the state, unless the answer of what was tried in it is an error or NONE. */
    private int settle(int answer) {
        if (answer >= 0) {
            history.record(now);
            now.copyFrom(draft);
        }
        return answer;
    }

    private int doThing() {
        switch (text.kind()) {
            case Guests.KING_COMES:
                return draft.invite(text.crown(), text.age(), text.number());
            case Guests.KING_LEAVES:
                return draft.dismiss(text.number());
            default:
                return draft.letPass(text.number());
        }
    }

    private static boolean isCrown(int crown) {
        return crown >= 1 && crown <= MOST_CROWN;
    }

    private static boolean isAge(int age) {
        return age >= 0 && age <= MOST_AGE;
    }

    /** One number for the precedence: of two kings the greater one has the greater worth. */
    private static int worthOf(int crown, int age, int king) {
        return (crown * (MOST_AGE + 1) + age) * (MOST_KINGS + 1) + MOST_KINGS - king;
    }

    private static void copyNumbers(int[] from, int[] to) {
        System.arraycopy(from, 0, to, 0, Math.min(from.length, to.length));
    }

    /** Kings one behind the other, without a gap. */
    private static final class Row {
        private final int[] members;
        private int size;

        Row(int most) {
            members = new int[Math.max(most, 0)];
            size = 0;
        }

        void copyFrom(Row other) {
            copyNumbers(other.members, members);
            size = Math.min(other.size, members.length);
        }

        int size() {
            return size;
        }

        int at(int place) {
            return place >= 0 && place < size && place < members.length ? members[place] : NONE;
        }

        int placeOf(int king) {
            for (int place = 0; place < size && place < members.length; place++) {
                if (members[place] == king) {
                    return place;
                }
            }
            return NONE;
        }

        void add(int king) {
            if (size >= 0 && size < members.length) {
                members[size] = king;
                size++;
            }
        }

        void remove(int king) {
            int gap = placeOf(king);
            if (gap < 0) {
                return;
            }
            for (int place = gap; place < size - 1 && place < members.length - 1; place++) {
                members[place] = members[place + 1];
            }
            size--;
        }

        void changeNeighbours(int upper) {
            if (upper < 0 || upper >= size - 1 || upper >= members.length - 1) {
                return;
            }
            int moved = members[upper];
            members[upper] = members[upper + 1];
            members[upper + 1] = moved;
        }
    }

    /** All that undo() and restore() bring back. */
    private static final class State {
        private final int[] facts;
        private final int[] worths;
        private final int[] settings;
        private final Row table;
        private final Row hall;
        private int kings;
        private int minute;
        private int rounds;
        private int changes;

        State() {
            facts = new int[MOST_KINGS * FACTS];
            worths = new int[MOST_KINGS];
            settings = new int[] {8, 10, 3, 4};
            table = new Row(MOST_SEATS);
            hall = new Row(MOST_KINGS);
            kings = 0;
            minute = 0;
            rounds = 0;
            changes = 0;
        }

        void copyFrom(State other) {
            copyNumbers(other.facts, facts);
            copyNumbers(other.worths, worths);
            copyNumbers(other.settings, settings);
            table.copyFrom(other.table);
            hall.copyFrom(other.hall);
            kings = other.kings;
            minute = other.minute;
            rounds = other.rounds;
            changes = other.changes;
        }

        boolean isKing(int king) {
            return king >= 0 && king < kings;
        }

        int invite(int crown, int age, int arrival) {
            if (!isCrown(crown) || !isAge(age) || arrival < 0 || arrival > LAST_ARRIVAL) {
                return BAD_VALUE;
            }
            if (arrival < minute) {
                return NOT_POSSIBLE;
            }
            int king = kings;
            if (king < 0 || king >= worths.length) {
                return FULL;
            }
            kings++;
            worths[king] = worthOf(crown, age, king);
            setFact(king, CROWN, crown);
            setFact(king, AGE, age);
            setFact(king, MINUTE, arrival);
            return king;
        }

        int dismiss(int king) {
            if (!isKing(king)) {
                return UNKNOWN;
            }
            int before = fact(king, DOING);
            if (before == LEFT) {
                return NOT_POSSIBLE;
            }
            table.remove(king);
            hall.remove(king);
            setFact(king, DOING, LEFT);
            return before;
        }

        int sendEnvoyTo(int seat) {
            if (seat < 0 || seat >= table.size() - 1) {
                return UNKNOWN;
            }
            if (!isGreater(table.at(seat + 1), table.at(seat))) {
                return NOT_POSSIBLE;
            }
            changeSeats(seat);
            return table.at(seat);
        }

        int changeSetting(int which, int value) {
            if (which < 0 || which >= settings.length) {
                return UNKNOWN;
            }
            if (!isSetting(which, value)) {
                return BAD_VALUE;
            }
            if (which == SEATS && value < table.size()) {
                return NOT_POSSIBLE;
            }
            int previous = settings[which];
            if (previous == value) {
                return NONE;
            }
            settings[which] = value;
            return previous;
        }

        private static boolean isSetting(int which, int value) {
            switch (which) {
                case SEATS:
                    return value >= 1 && value <= MOST_SEATS;
                case INTERVAL:
                    return value >= 1 && value <= 60;
                case ENVOYS:
                    return value >= 0 && value <= 9;
                default:
                    return value >= 1 && value <= 9;
            }
        }

        int letPass(int minutes) {
            if (minutes < 1 || minutes > MOST_MINUTES) {
                return BAD_VALUE;
            }
            if (minute + minutes > LAST_MINUTE) {
                return FULL;
            }
            int before = rounds;
            for (int passed = 0; passed < minutes; passed++) {
                receiveArrivals();
                letWaitersSit();
                if (isRoundDue()) {
                    holdRound();
                }
                minute++;
            }
            return rounds - before;
        }

        private void receiveArrivals() {
            for (int arrivals = 0; arrivals < kings; arrivals++) {
                int king = greatestArrival();
                if (king == NONE) {
                    return;
                }
                hall.add(king);
                setFact(king, DOING, WAITS);
            }
        }

        private int greatestArrival() {
            int greatest = NONE;
            for (int king = 0; king < kings; king++) {
                boolean arrives = fact(king, DOING) == ANNOUNCED && fact(king, MINUTE) == minute;
                if (arrives && (greatest == NONE || isGreater(king, greatest))) {
                    greatest = king;
                }
            }
            return greatest;
        }

        private void letWaitersSit() {
            for (int free = setting(SEATS) - table.size(); free > 0; free--) {
                int king = hall.at(0);
                if (king == NONE) {
                    return;
                }
                hall.remove(king);
                table.add(king);
                setFact(king, DOING, SITS);
            }
        }

        private boolean isRoundDue() {
            int interval = setting(INTERVAL);
            return interval > 0 && (minute + 1) % interval == 0;
        }

        void holdRound() {
            rounds++;
            for (int seat = 0; seat < table.size(); seat++) {
                int king = table.at(seat);
                setFact(king, TOASTS, fact(king, TOASTS) + 1);
            }
            // At a table in order nobody is slighted, sent or angry.
            if (firstWrongSeat() != NONE) {
                slight();
                sendEnvoys(setting(ENVOYS));
                letAngryLeave();
            }
        }

        private void slight() {
            for (int seat = 0; seat < table.size(); seat++) {
                int king = table.at(seat);
                if (isLesserAbove(king)) {
                    setFact(king, SLIGHTS, fact(king, SLIGHTS) + 1);
                }
            }
        }

        /** Each envoy lets the first neighbours who sit wrongly change; answers how many did not rest. */
        int sendEnvoys(int envoys) {
            for (int sent = 0; sent < envoys; sent++) {
                int seat = firstWrongSeat();
                if (seat == NONE) {
                    return sent;
                }
                changeSeats(seat);
            }
            return envoys;
        }

        private void changeSeats(int upper) {
            table.changeNeighbours(upper);
            changes++;
        }

        private int firstWrongSeat() {
            for (int seat = 0; seat < table.size() - 1; seat++) {
                if (isGreater(table.at(seat + 1), table.at(seat))) {
                    return seat;
                }
            }
            return NONE;
        }

        private void letAngryLeave() {
            // All of the angry ones are found before the first one leaves: they go all at once.
            for (int seat = 0; seat < table.size(); seat++) {
                int king = table.at(seat);
                if (fact(king, SLIGHTS) >= setting(PATIENCE) && isLesserAbove(king)) {
                    setFact(king, ANGRY, 1);
                }
            }
            for (int seat = table.size() - 1; seat >= 0; seat--) {
                int king = table.at(seat);
                if (fact(king, ANGRY) == 1) {
                    table.remove(king);
                    setFact(king, DOING, LEFT);
                }
            }
        }

        boolean isLesserAbove(int king) {
            int seat = table.placeOf(king);
            for (int above = 0; above < seat; above++) {
                if (isGreater(king, table.at(above))) {
                    return true;
                }
            }
            return false;
        }

        private boolean isGreater(int king, int other) {
            return king >= 0 && king < worths.length && other >= 0 && other < worths.length
                    && worths[king] > worths[other];
        }

        int tell(int king, int what) {
            switch (what) {
                case SEAT:
                    return table.placeOf(king);
                case PLACE:
                    return hall.placeOf(king);
                default:
                    return fact(king, what);
            }
        }

        int sitting() {
            return table.size();
        }

        int sitterAt(int seat) {
            return table.at(seat);
        }

        int waiterAt(int rank) {
            return hall.at(rank);
        }

        int whyAbove(int king, int other) {
            int seat = table.placeOf(king);
            int otherSeat = table.placeOf(other);
            if (seat == NONE || otherSeat == NONE || seat > otherSeat) {
                return 1;
            }
            if (isGreater(other, king)) {
                return 2;
            }
            if (fact(king, CROWN) > fact(other, CROWN)) {
                return 0;
            }
            return fact(king, AGE) > fact(other, AGE) ? 3 : 4;
        }

        int sittingAbove(int worth) {
            int above = 0;
            for (int king = 0; king < kings && king < worths.length; king++) {
                if (worths[king] > worth && fact(king, DOING) == SITS) {
                    above++;
                }
            }
            return above;
        }

        int wrongPairsOfTable() {
            int pairs = 0;
            for (int lower = 1; lower < table.size(); lower++) {
                for (int upper = 0; upper < lower; upper++) {
                    if (isGreater(table.at(lower), table.at(upper))) {
                        pairs++;
                    }
                }
            }
            return pairs;
        }

        int mostSlightedSitter() {
            int most = 0;
            int found = NONE;
            for (int seat = 0; seat < table.size(); seat++) {
                int king = table.at(seat);
                if (fact(king, SLIGHTS) > most) {
                    most = fact(king, SLIGHTS);
                    found = king;
                }
            }
            return found;
        }

        int firstArrival() {
            int first = NONE;
            for (int king = 0; king < kings; king++) {
                int arrival = fact(king, MINUTE);
                if (fact(king, DOING) == ANNOUNCED && (first == NONE || arrival < first)) {
                    first = arrival;
                }
            }
            return first;
        }

        int account(int what) {
            switch (what) {
                case 0:
                    return minute;
                case 1:
                    return kings;
                case 2:
                case 3:
                case 4:
                case 5:
                    return kingsDoing(what - 2);
                case 6:
                    return sum(ANGRY);
                case 7:
                    return rounds;
                case 8:
                    return sum(TOASTS);
                case 9:
                    return sum(SLIGHTS);
                case 10:
                    return changes;
                default:
                    return setting(what - 11);
            }
        }

        private int kingsDoing(int what) {
            int found = 0;
            for (int king = 0; king < kings; king++) {
                if (fact(king, DOING) == what) {
                    found++;
                }
            }
            return found;
        }

        int sum(int what) {
            int sum = 0;
            for (int king = 0; king < kings; king++) {
                sum += fact(king, what);
            }
            return sum;
        }

        int setting(int which) {
            return which >= 0 && which < settings.length ? settings[which] : 0;
        }

        private int fact(int king, int what) {
            int cell = king * FACTS + what;
            return isKing(king) && cell >= 0 && cell < facts.length ? facts[cell] : 0;
        }

        private void setFact(int king, int what, int value) {
            int cell = king * FACTS + what;
            if (isKing(king) && cell >= 0 && cell < facts.length) {
                facts[cell] = value;
            }
        }
    }

    /** The latest states; the oldest one is dropped where there is no more room. */
    private static final class History {
        private final State[] states;
        private int next;
        private int size;

        History() {
            states = new State[MOST_STATES];
            for (int slot = 0; slot < states.length; slot++) {
                states[slot] = new State();
            }
            next = 0;
            size = 0;
        }

        int size() {
            return size;
        }

        void record(State state) {
            State slot = slotAt(next);
            if (slot == null) {
                return;
            }
            slot.copyFrom(state);
            next = next + 1 < MOST_STATES ? next + 1 : 0;
            size = Math.min(size + 1, MOST_STATES);
        }

        /** Removes the latest state and puts it into the given one. */
        void takeBack(State state) {
            int latest = next > 0 ? next - 1 : MOST_STATES - 1;
            State slot = slotAt(latest);
            if (size == 0 || slot == null) {
                return;
            }
            state.copyFrom(slot);
            next = latest;
            size--;
        }

        private State slotAt(int slot) {
            return slot >= 0 && slot < states.length ? states[slot] : null;
        }
    }

    /** The text, and a reader that goes through it thing by thing. */
    private static final class Guests {
        static final int KING_COMES = 'k';
        static final int KING_LEAVES = 'l';
        static final int TIME_PASSES = '.';
        private static final int NO_THINGS = -1;
        private static final int NO_SIGN = -1;
        private static final int NO_DIGIT = -1;

        private final char[] signs;
        private int length;
        private int place;
        private int kind;
        private int crown;
        private int age;
        private int number;

        Guests() {
            signs = new char[MOST_SIGNS];
            length = 0;
            place = 0;
            kind = NO_SIGN;
            crown = 0;
            age = 0;
            number = 0;
        }

        int length() {
            return length;
        }

        int add(char sign) {
            if (length < 0 || length >= signs.length) {
                return FULL;
            }
            signs[length] = sign;
            length++;
            return length;
        }

        int empty() {
            int before = length;
            length = 0;
            return before;
        }

        /** The place that was reached: behind the thing that was read, or at the fault. */
        int place() {
            return place;
        }

        int kind() {
            return kind;
        }

        int crown() {
            return crown;
        }

        int age() {
            return age;
        }

        /** The minute, the king or the minutes that the thing tells. */
        int number() {
            return number;
        }

        void rewind() {
            place = 0;
        }

        /** Reads all of the text: how many things it has, or NO_THINGS if it has a fault. */
        int checkThings() {
            rewind();
            for (int things = 1; things <= MOST_SIGNS && readThing(); things++) {
                if (place >= length) {
                    return things;
                }
            }
            return NO_THINGS;
        }

        /** Reads the next thing, and what parts it from the one before; false at a fault. */
        boolean readThing() {
            if (place > 0 && !skip(';')) {
                return false;
            }
            kind = signAt(place);
            if (skip(KING_COMES)) {
                return readKing();
            }
            if (skip(KING_LEAVES)) {
                return readNumber(0, MOST_KINGS - 1);
            }
            return skip(TIME_PASSES) && readNumber(1, MOST_MINUTES);
        }

        private boolean readKing() {
            if (!readNumber(1, MOST_CROWN)) {
                return false;
            }
            crown = number;
            if (!skip('.') || !readNumber(0, MOST_AGE)) {
                return false;
            }
            age = number;
            return skip('@') && readNumber(0, LAST_ARRIVAL);
        }

        private boolean readNumber(int least, int most) {
            number = digitAt(place);
            if (number == NO_DIGIT || number < least) {
                return false;
            }
            place++;
            // Behind a zero in front no digit is taken, so that the next sign is the fault.
            while (number > 0 && place < length && digitAt(place) != NO_DIGIT
                    && number * 10 + digitAt(place) <= most) {
                number = number * 10 + digitAt(place);
                place++;
            }
            return true;
        }

        private boolean skip(int sign) {
            if (signAt(place) != sign) {
                return false;
            }
            place++;
            return true;
        }

        private int digitAt(int index) {
            int sign = signAt(index);
            return sign >= '0' && sign <= '9' ? sign - '0' : NO_DIGIT;
        }

        private int signAt(int index) {
            return index >= 0 && index < length && index < signs.length ? signs[index] : NO_SIGN;
        }
    }
}
