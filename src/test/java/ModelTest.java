import java.util.ArrayList;
import java.util.Collections;
import java.util.Comparator;
import java.util.List;
import java.util.Random;

/**
 * All promises together: runs from fixed seeds against a plain model that sorts the messages of a
 * unit anew for each question and reads the answer off the list of its stays.
 */
public final class ModelTest {
    private static final int[][] FOLLOWERS = {
        {1, 7, 8, 9, 10}, {2, 0}, {3, 6}, {4, 5}, {5}, {1, 6}, {0, 1, 7}, {0, 6}, {0, 9}, {0, 8},
        {0, 9}
    };
    private static final int[] LAST = {9, 2, 9, 9, 9, 9, 9, 9, 9, 9, 9, 999_999, 9, 255, 1, 999};

    private record Message(int number, int unit, int t, int kind, int value) {}

    private record Stay(int state, int from, int value, Message by) {}

    /** A unit at a minute. */
    private static final class Told {
        final List<Stay> stays = new ArrayList<>();
        int crew;
        int things;
        int link = 1;
        Message place;
        Message expected;
        boolean came;

        Stay now() {
            return stays.get(stays.size() - 1);
        }

        Stay latest(int state) {
            Stay found = null;
            for (Stay stay : stays) {
                found = stay.state == state ? stay : found;
            }
            return found;
        }

        int driving(int t) {
            int sum = 0;
            for (int i = 0; i < stays.size(); i++) {
                Stay stay = stays.get(i);
                int minutes = (i + 1 < stays.size() ? stays.get(i + 1).from : t) - stay.from;
                boolean rests = stay.state == 0 || stay.state >= 7;
                sum = rests && minutes >= 30 ? 0 : sum;
                sum += stay.state == 2 || stay.state == 6 ? minutes : 0;
            }
            return sum;
        }
    }

    private final Check check;
    private final Random random;
    private final UnitStates x = new UnitStates();
    private final List<int[]> units = new ArrayList<>();
    private final List<Message> messages = new ArrayList<>();
    private final int[] found = new int[200];

    private ModelTest(Check check, long seed) {
        this.check = check;
        this.random = new Random(seed);
    }

    public static void main(String[] args) {
        Check check = new Check();
        for (int seed = 0; seed < 600; seed++) {
            new ModelTest(check, seed).run();
        }
        for (int seed = 0; seed < 200; seed++) {
            anyOrder(check, seed);
        }
        check.end();
    }

    private static boolean canFollow(int before, int next) {
        for (int follower : FOLLOWERS[before]) {
            if (follower == next) {
                return true;
            }
        }
        return false;
    }

    private Told told(int unit, int t) {
        List<Message> mine = new ArrayList<>(messages);
        mine.removeIf(m -> m.unit != unit || m.t > t);
        mine.sort(Comparator.comparingInt(Message::t).thenComparingInt(Message::number));
        Told told = new Told();
        int least = units.get(unit)[1];
        told.crew = least;
        told.stays.add(new Stay(0, 0, units.get(unit)[0], null));
        for (Message m : mine) {
            found[m.number] = take(told, m, units.get(unit)[0], least);
        }
        return told;
    }

    private static int take(Told told, Message m, int home, int least) {
        if (m.kind <= 10) {
            if (!canFollow(told.now().state, m.kind)) {
                return 1;
            }
            if (m.kind >= 2 && m.kind <= 4 && told.crew < least) {
                return 2;
            }
            told.stays.add(new Stay(m.kind, m.t, m.value, m));
            told.came |= m.kind == 3;
            return m.kind == 0 && m.value != home ? 3 : 0;
        }
        if (m.kind == 11 && told.link == 0) {
            return 4;
        }
        told.place = m.kind == 11 ? m : told.place;
        told.crew = m.kind == 12 ? m.value : told.crew;
        told.things = m.kind == 13 ? m.value : told.things;
        told.link = m.kind == 14 ? m.value : told.link;
        told.expected = m.kind == 15 ? m : told.expected;
        told.came &= m.kind != 15;
        return 0;
    }

    /** The units that stand at an incident, the earliest first. */
    private List<Integer> ranked(int incident, int t) {
        List<Message> arrivals = new ArrayList<>();
        for (int unit = 0; unit < units.size(); unit++) {
            Told told = told(unit, t);
            int state = told.now().state;
            if (state >= 3 && state <= 5 && told.latest(1).value == incident) {
                arrivals.add(told.latest(3).by);
            }
        }
        arrivals.sort(Comparator.comparingInt(Message::t).thenComparingInt(Message::number));
        List<Integer> ranked = new ArrayList<>();
        for (Message m : arrivals) {
            ranked.add(m.unit);
        }
        return ranked;
    }

    private int at(int unit, int t, int what) {
        Told told = told(unit, t);
        Stay now = told.now();
        int incident = now.state >= 1 && now.state <= 5 ? told.latest(1).value : -1;
        switch (what) {
            case 0: return now.state;
            case 1: return now.from;
            case 2: return now.state == 0 ? now.value : -1;
            case 3: return incident;
            case 4: return told.crew;
            case 5: return told.things;
            case 6: return told.link;
            case 7: return told.driving(t);
            case 8:
                return (now.state == 0 || now.state == 5 || now.state == 6) && told.link == 1
                        && told.crew >= units.get(unit)[1] && told.driving(t) < 240 ? 1 : 0;
            default: return ranked(incident, t).indexOf(unit) + 1;
        }
    }

    private void run() {
        int unitCount = 1 + random.nextInt(6);
        for (int i = 0; i < unitCount; i++) {
            int[] unit = {random.nextInt(3), random.nextInt(3)};
            units.add(unit);
            check.due("unit", x.unit(unit[0], unit[1]), i);
        }
        int span = random.nextBoolean() ? 60 : 1_500;
        for (int i = 0; i < 120; i++) {
            send(span);
            ask(span);
            ask(span);
        }
        askWrongs();
    }

    private void send(int span) {
        int unit = random.nextInt(units.size());
        int t = random.nextInt(span);
        int kind = random.nextInt(16);
        if (random.nextInt(10) < 7) {
            int[] followers = FOLLOWERS[told(unit, t).now().state];
            kind = followers[random.nextInt(followers.length)];
        }
        int value = kind == 12 ? random.nextInt(5) : random.nextInt(LAST[kind] + 1);
        messages.add(new Message(messages.size(), unit, t, kind, value));
        check.due("message", x.message(unit, t, kind, value), messages.size() - 1);
    }

    private void ask(int span) {
        int unit = random.nextInt(units.size());
        int t = random.nextInt(span + 40);
        Told told = told(unit, t);
        String call = "(" + unit + ", " + t + ")";
        switch (random.nextInt(7)) {
            case 0: {
                int due = told.place == null ? -1 : told.place.value;
                check.due("place" + call, x.place(unit, t), due);
                break;
            }
            case 1: {
                int due = told.place == null ? -1 : t - told.place.t;
                check.due("age" + call, x.age(unit, t), due);
                break;
            }
            case 2: {
                Message last = told.expected;
                int due = last == null || told.came ? -1 : last.t + last.value;
                check.due("expected" + call, x.expected(unit, t), due);
                break;
            }
            case 3: {
                int state = random.nextInt(11);
                int due = 0;
                for (int i = 0; i < units.size(); i++) {
                    due += told(i, t).now().state == state ? 1 : 0;
                }
                check.due("many(" + state + ", " + t + ")", x.many(state, t), due);
                break;
            }
            case 4: {
                int incident = random.nextInt(3);
                int rank = 1 + random.nextInt(3);
                List<Integer> ranked = ranked(incident, t);
                int due = rank <= ranked.size() ? ranked.get(rank - 1) : -1;
                check.due("arrived(" + incident + ", " + rank + ", " + t + ")",
                        x.arrived(incident, rank, t), due);
                break;
            }
            default: {
                int what = random.nextInt(10);
                check.due("at" + call + " " + what, x.at(unit, t, what), at(unit, t, what));
            }
        }
    }

    private void askWrongs() {
        for (int unit = 0; unit < units.size(); unit++) {
            told(unit, 99_999);
        }
        int[] counts = new int[5];
        for (int i = 0; i < messages.size(); i++) {
            counts[found[i]]++;
            check.due("wrong(" + i + ")", x.wrong(i), found[i]);
        }
        for (int what = 1; what <= 4; what++) {
            check.due("told(" + what + ")", x.told(what), counts[what]);
        }
        check.due("told(5)", x.told(5), messages.size());
        check.due("told(6)", x.told(6), units.size());
    }

    /** With no two messages of one minute, the order in which they come does not matter. */
    private static void anyOrder(Check check, long seed) {
        ModelTest one = new ModelTest(check, seed);
        one.units.add(new int[] {0, 1});
        one.x.unit(0, 1);
        for (int i = 0; i < 60; i++) {
            one.send((i + 1) * 7);
        }
        List<Message> distinct = new ArrayList<>();
        for (Message m : one.messages) {
            if (distinct.stream().noneMatch(other -> other.t == m.t)) {
                distinct.add(m);
            }
        }
        UnitStates due = sent(distinct);
        Collections.shuffle(distinct, new Random(seed));
        UnitStates got = sent(distinct);
        for (int t = 0; t < 440; t += 11) {
            for (int what = 0; what <= 9; what++) {
                check.due("shuffled at(0, " + t + ", " + what + ")",
                        got.at(0, t, what), due.at(0, t, what));
            }
        }
    }

    private static UnitStates sent(List<Message> messages) {
        UnitStates x = new UnitStates();
        x.unit(0, 1);
        for (Message m : messages) {
            x.message(0, m.t, m.kind, m.value);
        }
        return x;
    }
}
