/**
 * Units of a rescue service by messages that may come late: states, places, crews, links and
 * driving, each as the messages up to a minute tell them, whatever the order in which they came.
 *
 * <p>A late message can make earlier ones wrong or right again, so nothing that messages tell is
 * kept: each question replays the messages, in their due order, up to its minute.
 */
public final class UnitStates {
    private static final int MOST_UNITS = 30;
    private static final int MOST_MESSAGES = 200;

    private static final int LAST_MINUTE = 99_999;
    private static final int LAST_STATION = 9;
    private static final int LAST_INCIDENT = 19;
    private static final int LAST_PLACE = 999_999;
    private static final int LARGEST_CREW = 9;
    private static final int ALL_THINGS = 255;
    private static final int LONGEST_WAY = 999;

    private static final int ON_STATION = 0;
    private static final int ALARMED = 1;
    private static final int LEAVING = 2;
    private static final int AT_SCENE = 3;
    private static final int WORKING = 4;
    private static final int RELIEVED = 5;
    private static final int RETURNING = 6;
    private static final int REFUELLING = 7;
    private static final int OUT = 8;
    private static final int IN_REPAIR = 9;
    private static final int SPARE = 10;
    private static final int LAST_STATE = SPARE;

    private static final int PLACE = 11;
    private static final int CREW = 12;
    private static final int THINGS = 13;
    private static final int LINK = 14;
    private static final int EXPECTED = 15;
    private static final int LAST_KIND = EXPECTED;

    private static final int NOTHING = 0;
    private static final int CANNOT_FOLLOW = 1;
    private static final int CREW_TOO_SMALL = 2;
    private static final int STRANGE = 3;
    private static final int LINK_LOST = 4;

    private static final int NONE = -1;
    private static final int REST_MINUTES = 30;
    private static final int DRIVING_LIMIT = 240;

    private final Unit[] units = new Unit[MOST_UNITS];
    private int unitCount;

    private final int[] unitOf = new int[MOST_MESSAGES];
    private final int[] minuteOf = new int[MOST_MESSAGES];
    private final int[] kindOf = new int[MOST_MESSAGES];
    private final int[] valueOf = new int[MOST_MESSAGES];
    /** What the latest replay found of each message that counted in it. */
    private final int[] findingOf = new int[MOST_MESSAGES];
    /** The messages' numbers by minutes, then by numbers. */
    private final int[] order = new int[MOST_MESSAGES];
    private int messageCount;
    private int messagesOfUnknownUnits;

    public UnitStates() {
        for (int i = 0; i < MOST_UNITS; i++) {
            units[i] = new Unit();
        }
    }

    public int unit(int home, int least)
            throws IndexOutOfBoundsException, UnsupportedOperationException {
        if (!isWithin(home, LAST_STATION)) {
            throw new IndexOutOfBoundsException("no such station");
        }
        if (!isWithin(least, LARGEST_CREW)) {
            throw new IndexOutOfBoundsException("no such crew");
        }
        if (unitCount >= MOST_UNITS) {
            throw new UnsupportedOperationException("no room for a unit");
        }
        units[unitCount].settle(home, least);
        return unitCount++;
    }

    public int message(int unit, int t, int kind, int value)
            throws IllegalArgumentException, IndexOutOfBoundsException,
                    UnsupportedOperationException {
        if (!isUnit(unit)) {
            messagesOfUnknownUnits++;
            throw new IllegalArgumentException("no such unit");
        }
        if (!isWithin(kind, LAST_KIND)) {
            throw new IllegalArgumentException("no such kind");
        }
        refuseOutsideMinutes(t);
        if (!isValueOf(kind, value)) {
            throw new IndexOutOfBoundsException("no such value of this kind");
        }
        if (messageCount >= MOST_MESSAGES) {
            throw new UnsupportedOperationException("no room for a message");
        }
        unitOf[messageCount] = unit;
        minuteOf[messageCount] = t;
        kindOf[messageCount] = kind;
        valueOf[messageCount] = value;
        putInOrder(messageCount, t);
        return messageCount++;
    }

    public int at(int unit, int t, int what)
            throws IllegalArgumentException, IndexOutOfBoundsException {
        refuseUnknownUnit(unit);
        if (!isWithin(what, 9)) {
            throw new IllegalArgumentException("no such what");
        }
        refuseOutsideMinutes(t);
        replay(t);
        Unit asked = units[unit];
        switch (what) {
            case 0: return asked.state;
            case 1: return asked.since;
            case 2: return asked.stationNow();
            case 3: return asked.incidentNow();
            case 4: return asked.crew;
            case 5: return asked.things;
            case 6: return asked.link;
            case 7: return asked.drivenUpTo(t);
            case 8: return asked.isSendable(t) ? 1 : 0;
            default: return rankOf(asked);
        }
    }

    public int place(int unit, int t) throws IllegalArgumentException, IndexOutOfBoundsException {
        return replayedUnit(unit, t).lastPlace;
    }

    public int age(int unit, int t) throws IllegalArgumentException, IndexOutOfBoundsException {
        Unit asked = replayedUnit(unit, t);
        return asked.lastPlace == NONE ? NONE : t - asked.lastPlaceMinute;
    }

    public int expected(int unit, int t)
            throws IllegalArgumentException, IndexOutOfBoundsException {
        return replayedUnit(unit, t).expectedMinute;
    }

    public int wrong(int message) throws IllegalArgumentException {
        if (message < 0 || message >= messageCount) {
            throw new IllegalArgumentException("no such message");
        }
        replay(LAST_MINUTE);
        return findingOf[message];
    }

    public int told(int what) throws IllegalArgumentException {
        switch (what) {
            case 0: return messagesOfUnknownUnits;
            case CANNOT_FOLLOW:
            case CREW_TOO_SMALL:
            case STRANGE:
            case LINK_LOST: return countFindings(what);
            case 5: return messageCount;
            case 6: return unitCount;
            default: throw new IllegalArgumentException("no such what");
        }
    }

    public int many(int state, int t) throws IllegalArgumentException, IndexOutOfBoundsException {
        if (!isWithin(state, LAST_STATE)) {
            throw new IllegalArgumentException("no such state");
        }
        refuseOutsideMinutes(t);
        replay(t);
        int count = 0;
        for (int i = 0; i < unitCount; i++) {
            if (units[i].state == state) {
                count++;
            }
        }
        return count;
    }

    public int arrived(int incident, int rank, int t)
            throws IllegalArgumentException, IndexOutOfBoundsException {
        if (!isWithin(incident, LAST_INCIDENT)) {
            throw new IllegalArgumentException("no such incident");
        }
        refuseOutsideMinutes(t);
        if (rank < 1) {
            throw new IndexOutOfBoundsException("ranks begin with 1");
        }
        replay(t);
        for (int i = 0; i < unitCount; i++) {
            if (units[i].isThereAt(incident) && rankOf(units[i]) == rank) {
                return i;
            }
        }
        return NONE;
    }

    private static boolean isWithin(int number, int last) {
        return number >= 0 && number <= last;
    }

    private static boolean isValueOf(int kind, int value) {
        switch (kind) {
            case ON_STATION: return isWithin(value, LAST_STATION);
            case ALARMED: return isWithin(value, LAST_INCIDENT);
            case PLACE: return isWithin(value, LAST_PLACE);
            case CREW: return isWithin(value, LARGEST_CREW);
            case THINGS: return isWithin(value, ALL_THINGS);
            case LINK: return isWithin(value, 1);
            case EXPECTED: return isWithin(value, LONGEST_WAY);
            default: return true;
        }
    }

    private static void refuseOutsideMinutes(int t) {
        if (!isWithin(t, LAST_MINUTE)) {
            throw new IndexOutOfBoundsException("no such minute");
        }
    }

    private boolean isUnit(int number) {
        return number >= 0 && number < unitCount;
    }

    private void refuseUnknownUnit(int number) {
        if (!isUnit(number)) {
            throw new IllegalArgumentException("no such unit");
        }
    }

    private Unit replayedUnit(int number, int t) {
        refuseUnknownUnit(number);
        refuseOutsideMinutes(t);
        replay(t);
        return units[number];
    }

    /** The number is the greatest so far, so it goes behind all messages of its own minute. */
    private void putInOrder(int number, int t) {
        int position = messageCount;
        while (position > 0 && minuteOf[order[position - 1]] > t) {
            order[position] = order[position - 1];
            position--;
        }
        order[position] = number;
    }

    private void replay(int t) {
        for (int i = 0; i < unitCount; i++) {
            units[i].startAnew();
        }
        for (int position = 0; position < messageCount; position++) {
            int number = order[position];
            if (minuteOf[number] > t) {
                break;
            }
            Unit teller = units[unitOf[number]];
            findingOf[number] =
                    teller.take(kindOf[number], valueOf[number], minuteOf[number], position);
        }
    }

    private int countFindings(int finding) {
        replay(LAST_MINUTE);
        int count = 0;
        for (int i = 0; i < messageCount; i++) {
            if (findingOf[i] == finding) {
                count++;
            }
        }
        return count;
    }

    private int rankOf(Unit ranked) {
        int incident = ranked.incidentNow();
        if (!ranked.isThereAt(incident)) {
            return 0;
        }
        int rank = 1;
        for (int i = 0; i < unitCount; i++) {
            if (units[i].isThereAt(incident) && units[i].arrival < ranked.arrival) {
                rank++;
            }
        }
        return rank;
    }

    /** A unit as the messages taken since it started anew tell it. */
    private static final class Unit {
        private int home;
        private int least;
        private int state;
        private int since;
        private int station;
        private int incident;
        private int crew;
        private int things;
        private int link;
        private int lastPlace;
        private int lastPlaceMinute;
        private int expectedMinute;
        /** The position, in the messages' order, of the latest one that brought it to the scene. */
        private int arrival;
        /** The driving minutes up to the minute since which it is in its state. */
        private int driven;

        private void settle(int itsHome, int itsLeast) {
            home = itsHome;
            least = itsLeast;
        }

        private void startAnew() {
            state = ON_STATION;
            since = 0;
            station = home;
            incident = NONE;
            crew = least;
            things = 0;
            link = 1;
            lastPlace = NONE;
            lastPlaceMinute = 0;
            expectedMinute = NONE;
            arrival = NONE;
            driven = 0;
        }

        /** Takes a message and answers what is to be told of it. */
        private int take(int kind, int value, int minute, int position) {
            switch (kind) {
                case PLACE: return takePlace(value, minute);
                case CREW: crew = value; return NOTHING;
                case THINGS: things = value; return NOTHING;
                case LINK: link = value; return NOTHING;
                case EXPECTED: expectedMinute = minute + value; return NOTHING;
                default: return takeState(kind, value, minute, position);
            }
        }

        private int takePlace(int value, int minute) {
            if (link == 0) {
                return LINK_LOST;
            }
            lastPlace = value;
            lastPlaceMinute = minute;
            return NOTHING;
        }

        private int takeState(int next, int value, int minute, int position) {
            if (!canFollow(state, next)) {
                return CANNOT_FOLLOW;
            }
            if (needsCrew(next) && crew < least) {
                return CREW_TOO_SMALL;
            }
            driven = drivenUpTo(minute);
            state = next;
            since = minute;
            if (next == ALARMED) {
                incident = value;
            }
            if (next == AT_SCENE) {
                arrival = position;
                expectedMinute = NONE;
            }
            return next == ON_STATION ? takeStation(value) : NOTHING;
        }

        private int takeStation(int value) {
            station = value;
            return station == home ? NOTHING : STRANGE;
        }

        private static boolean canFollow(int before, int next) {
            switch (before) {
                case ON_STATION: return next == ALARMED || next >= REFUELLING;
                case ALARMED: return next == LEAVING || next == ON_STATION;
                case LEAVING: return next == AT_SCENE || next == RETURNING;
                case AT_SCENE: return next == WORKING || next == RELIEVED;
                case WORKING: return next == RELIEVED;
                case RELIEVED: return next == ALARMED || next == RETURNING;
                case RETURNING:
                    return next == ON_STATION || next == ALARMED || next == REFUELLING;
                case REFUELLING: return next == ON_STATION || next == RETURNING;
                case OUT: return next == ON_STATION || next == IN_REPAIR;
                case IN_REPAIR: return next == ON_STATION || next == OUT;
                case SPARE: return next == ON_STATION || next == IN_REPAIR;
                default: return false;
            }
        }

        private static boolean needsCrew(int next) {
            return next >= LEAVING && next <= WORKING;
        }

        /** The driving minutes at a minute that no later change of state precedes. */
        private int drivenUpTo(int minute) {
            int stayed = minute - since;
            if (state == LEAVING || state == RETURNING) {
                return driven + stayed;
            }
            return isRestful() && stayed >= REST_MINUTES ? 0 : driven;
        }

        private boolean isRestful() {
            return state == ON_STATION || state >= REFUELLING;
        }

        private boolean isSendable(int minute) {
            return (state == ON_STATION || state == RELIEVED || state == RETURNING)
                    && crew >= least
                    && link == 1
                    && drivenUpTo(minute) < DRIVING_LIMIT;
        }

        private int stationNow() {
            return state == ON_STATION ? station : NONE;
        }

        private int incidentNow() {
            return state >= ALARMED && state <= RELIEVED ? incident : NONE;
        }

        private boolean isThereAt(int asked) {
            return state >= AT_SCENE && state <= RELIEVED && incident == asked;
        }
    }
}
