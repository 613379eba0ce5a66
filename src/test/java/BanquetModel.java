import java.util.ArrayDeque;
import java.util.ArrayList;
import java.util.Comparator;
import java.util.Deque;
import java.util.List;
import java.util.regex.Matcher;
import java.util.regex.Pattern;

/** The document once more, written with the Java library and without regard to room. */
final class BanquetModel {
    private static final String NUMBER_TO_120 = "(0|[1-9][0-9]?|1[01][0-9]|120)";
    private static final String THING =
            "(k[1-9]\\." + NUMBER_TO_120 + "@(0|[1-9][0-9]{0,3})|l(0|[1-9]|1[0-9]|2[0-3])|\\.[1-9][0-9]?)";
    private static final Pattern GUESTS = Pattern.compile(THING + "(;" + THING + ")*", Pattern.DOTALL);
    private static final Pattern KING = Pattern.compile("k(.)\\.(\\d+)@(\\d+)");
    private static final Comparator<King> PRECEDENCE =
            Comparator.<King>comparingInt(k -> -k.crown).thenComparingInt(k -> -k.age).thenComparingInt(k -> k.number);

    private static final class King {
        int number, crown, age, minute, doing, toasts, slights, angry;

        King copy() {
            King king = new King();
            king.number = number;
            king.crown = crown;
            king.age = age;
            king.minute = minute;
            king.doing = doing;
            king.toasts = toasts;
            king.slights = slights;
            king.angry = angry;
            return king;
        }

        boolean isGreaterThan(King other) {
            return PRECEDENCE.compare(this, other) < 0;
        }
    }

    private static final class Hall {
        List<King> kings = new ArrayList<>();
        List<King> table = new ArrayList<>();
        List<King> row = new ArrayList<>();
        int minute, rounds, toasts, slights, changes;
        int[] settings = {8, 10, 3, 4};

        Hall copy() {
            Hall hall = new Hall();
            kings.forEach(k -> hall.kings.add(k.copy()));
            table.forEach(k -> hall.table.add(hall.kings.get(k.number)));
            row.forEach(k -> hall.row.add(hall.kings.get(k.number)));
            hall.minute = minute;
            hall.rounds = rounds;
            hall.toasts = toasts;
            hall.slights = slights;
            hall.changes = changes;
            hall.settings = settings.clone();
            return hall;
        }

        boolean isSlighted(King king) {
            return table.subList(0, table.indexOf(king)).stream().anyMatch(king::isGreaterThan);
        }

        boolean sendOne() {
            for (int lower = 1; lower < table.size(); lower++) {
                if (table.get(lower).isGreaterThan(table.get(lower - 1))) {
                    table.add(lower - 1, table.remove(lower));
                    changes++;
                    return true;
                }
            }
            return false;
        }

        void round() {
            rounds++;
            table.forEach(k -> k.toasts++);
            toasts += table.size();
            List<King> slighted = table.stream().filter(this::isSlighted).toList();
            slighted.forEach(k -> k.slights++);
            slights += slighted.size();
            for (int sent = 0; sent < settings[2]; sent++) {
                sendOne();
            }
            List<King> angry = table.stream().filter(k -> k.slights >= settings[3] && isSlighted(k)).toList();
            angry.forEach(k -> {
                k.doing = 3;
                k.angry = 1;
            });
            table.removeAll(angry);
        }

        void minute() {
            List<King> come = new ArrayList<>(kings.stream().filter(k -> k.doing == 0 && k.minute == minute).toList());
            come.sort(PRECEDENCE);
            come.forEach(k -> k.doing = 1);
            row.addAll(come);
            while (!row.isEmpty() && table.size() < settings[0]) {
                row.get(0).doing = 2;
                table.add(row.remove(0));
            }
            if ((minute + 1) % settings[1] == 0) {
                round();
            }
            minute++;
        }

        int announce(int crown, int age, int when) {
            if (crown < 1 || crown > 9 || age < 0 || age > 120 || when < 0 || when > 9999) {
                return -2;
            }
            if (when < minute) {
                return -4;
            }
            if (kings.size() == 24) {
                return -3;
            }
            King king = new King();
            king.number = kings.size();
            king.crown = crown;
            king.age = age;
            king.minute = when;
            kings.add(king);
            return king.number;
        }

        int leave(int number) {
            if (number < 0 || number >= kings.size()) {
                return -1;
            }
            King king = kings.get(number);
            int before = king.doing;
            if (before == 3) {
                return -4;
            }
            king.doing = 3;
            table.remove(king);
            row.remove(king);
            return before;
        }

        int pass(int minutes) {
            if (minutes < 1 || minutes > 99) {
                return -2;
            }
            if (minute + minutes > 99999) {
                return -3;
            }
            int before = rounds;
            for (int i = 0; i < minutes; i++) {
                minute();
            }
            return rounds - before;
        }
    }

    private Hall now = new Hall();
    private Hall snapshot;
    private final Deque<Hall> history = new ArrayDeque<>();
    private String text = "";
    private int stopThing = -5;
    private int stopError = -5;

    private int act(Hall next, int answer) {
        if (answer >= 0) {
            history.addLast(now);
            if (history.size() > 4) {
                history.removeFirst();
            }
            now = next;
        }
        return answer;
    }

    int announce(int crown, int age, int minute) {
        Hall next = now.copy();
        return act(next, next.announce(crown, age, minute));
    }

    int leave(int king) {
        Hall next = now.copy();
        return act(next, next.leave(king));
    }

    int send(int seat) {
        if (seat < 0 || seat >= now.table.size() || seat + 1 >= now.table.size()) {
            return -1;
        }
        Hall next = now.copy();
        King lower = next.table.get(seat + 1);
        if (!lower.isGreaterThan(next.table.get(seat))) {
            return -4;
        }
        next.table.remove(lower);
        next.table.add(seat, lower);
        next.changes++;
        return act(next, lower.number);
    }

    int set(int which, int value) {
        int[] least = {1, 1, 0, 1};
        int[] most = {12, 60, 9, 9};
        if (which < 0 || which > 3) {
            return -1;
        }
        if (value < least[which] || value > most[which]) {
            return -2;
        }
        if (which == 0 && now.table.size() > value) {
            return -4;
        }
        int previous = now.settings[which];
        if (previous == value) {
            return -5;
        }
        Hall next = now.copy();
        next.settings[which] = value;
        return act(next, previous);
    }

    int pass(int minutes) {
        Hall next = now.copy();
        return act(next, next.pass(minutes));
    }

    int type(char sign) {
        if (text.length() >= 60) {
            return -3;
        }
        text += sign;
        return text.length();
    }

    int clearText() {
        int length = text.length();
        text = "";
        return length;
    }

    int perform() {
        if (!GUESTS.matcher(text).matches()) {
            return -100 - fault();
        }
        String[] things = text.split(";");
        Hall next = now.copy();
        for (int at = 0; at < things.length; at++) {
            int answer = thing(next, things[at]);
            if (answer < 0) {
                stopThing = at;
                stopError = answer;
                return -4;
            }
        }
        return act(next, things.length);
    }

    /** The longest beginning that can go on to a whole text of guests: the fault is behind it. */
    private int fault() {
        int good = 0;
        for (int length = 1; length <= text.length(); length++) {
            Matcher matcher = GUESTS.matcher(text.substring(0, length));
            if (!matcher.matches() && !matcher.hitEnd()) {
                return good;
            }
            good = length;
        }
        return good;
    }

    private static int thing(Hall hall, String thing) {
        Matcher king = KING.matcher(thing);
        if (king.matches()) {
            return hall.announce(Integer.parseInt(king.group(1)), Integer.parseInt(king.group(2)),
                    Integer.parseInt(king.group(3)));
        }
        int number = Integer.parseInt(thing.substring(1));
        return thing.charAt(0) == 'l' ? hall.leave(number) : hall.pass(number);
    }

    int stopped(int what) {
        return what == 0 ? stopThing : what == 1 ? stopError : -2;
    }

    int undo() {
        if (history.isEmpty()) {
            return -5;
        }
        now = history.removeLast();
        return history.size();
    }

    int keep() {
        snapshot = now.copy();
        return now.table.size();
    }

    int restore() {
        return snapshot == null ? -5 : act(snapshot.copy(), snapshot.table.size());
    }

    int king(int number, int what) {
        if (number < 0 || number >= now.kings.size()) {
            return -1;
        }
        if (what < 0 || what > 8) {
            return -2;
        }
        King king = now.kings.get(number);
        int seat = now.table.indexOf(king);
        int place = now.row.indexOf(king);
        return new int[] {king.crown, king.age, king.minute, king.doing, seat < 0 ? -5 : seat, place < 0 ? -5 : place,
            king.toasts, king.slights, king.angry}[what];
    }

    int seat(int seat) {
        if (seat < 0 || seat > 11) {
            return -1;
        }
        return seat < now.table.size() ? now.table.get(seat).number : -5;
    }

    int waits(int rank) {
        if (rank < 0) {
            return -2;
        }
        return rank < now.row.size() ? now.row.get(rank).number : -5;
    }

    int reason(int number, int otherNumber) {
        int most = now.kings.size();
        if (number < 0 || number >= most || otherNumber < 0 || otherNumber >= most) {
            return -1;
        }
        if (number == otherNumber) {
            return -2;
        }
        King king = now.kings.get(number);
        King other = now.kings.get(otherNumber);
        boolean bothSit = king.doing == 2 && other.doing == 2;
        if (!bothSit || now.table.indexOf(king) > now.table.indexOf(other)) {
            return 1;
        }
        if (other.isGreaterThan(king)) {
            return 2;
        }
        return king.crown > other.crown ? 0 : king.age > other.age ? 3 : 4;
    }

    int dueIn(int number) {
        if (number < 0 || number >= now.kings.size()) {
            return -1;
        }
        Hall hall = now.copy();
        King king = hall.kings.get(number);
        if (king.doing != 2) {
            return -4;
        }
        for (int rounds = 0; rounds <= 100; rounds++) {
            if (!hall.isSlighted(king)) {
                return rounds;
            }
            for (int sent = 0; sent < hall.settings[2]; sent++) {
                hall.sendOne();
            }
        }
        return -5;
    }

    int dueSeat(int crown, int age) {
        if (crown < 1 || crown > 9 || age < 0 || age > 120) {
            return -2;
        }
        King guest = new King();
        guest.crown = crown;
        guest.age = age;
        guest.number = 1000;
        List<King> all = new ArrayList<>(now.table);
        all.add(guest);
        all.sort(PRECEDENCE);
        return all.indexOf(guest);
    }

    int wrongPairs() {
        int pairs = 0;
        for (King upper : now.table) {
            for (King lower : now.table) {
                boolean above = now.table.indexOf(upper) < now.table.indexOf(lower);
                pairs += above && lower.isGreaterThan(upper) ? 1 : 0;
            }
        }
        return pairs;
    }

    int changesNeeded() {
        Hall hall = now.copy();
        int changes = 0;
        while (hall.sendOne()) {
            changes++;
        }
        return changes;
    }

    int mostSlighted() {
        King most = null;
        for (King king : now.table) {
            if (king.slights > (most == null ? 0 : most.slights)) {
                most = king;
            }
        }
        return most == null ? -5 : most.number;
    }

    int ifRounds(int rounds) {
        if (rounds < 1 || rounds > 30) {
            return -2;
        }
        Hall hall = now.copy();
        for (int round = 0; round < rounds; round++) {
            hall.round();
        }
        return now.table.size() - hall.table.size();
    }

    int nextArrival() {
        return now.kings.stream().filter(k -> k.doing == 0).mapToInt(k -> k.minute).min().orElse(-5);
    }

    int count(int what) {
        if (what < 0 || what > 16) {
            return -2;
        }
        int[] doing = new int[4];
        now.kings.forEach(k -> doing[k.doing]++);
        int angry = (int) now.kings.stream().filter(k -> k.angry == 1).count();
        int[] set = now.settings;
        return new int[] {now.minute, now.kings.size(), doing[0], doing[1], doing[2], doing[3], angry, now.rounds,
            now.toasts, now.slights, now.changes, set[0], set[1], set[2], set[3], history.size(), text.length()}[what];
    }
}
