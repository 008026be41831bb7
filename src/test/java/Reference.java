import java.math.BigDecimal;
import java.math.RoundingMode;
import java.util.ArrayDeque;
import java.util.ArrayList;
import java.util.List;
import java.util.TreeMap;
import java.util.regex.Matcher;
import java.util.regex.Pattern;

/** The document once more, written in another way than the class, and without a thought of speed. */
final class Reference {
    private record Ear(int place, boolean mute, int offset, int drift) {
        int reads(int time) {
            return time + offset + quotient((long) drift * time, 10000).intValueExact();
        }
    }

    /** What was made, and the readings by the ears that heard it. */
    private record Sound(boolean knock, int place, int time, int pace, boolean leftOut,
        TreeMap<Integer, Integer> heard) {
    }

    private record State(List<Ear> ears, List<Sound> thumps, List<Sound> knocks, int pace, int tolerance, int latest) {
    }

    private record Mark(int reading, int error, int thump) {
    }

    private record Order(boolean knock, int place, int time, int reach) {
    }

    private State now = new State(List.of(), List.of(), List.of(), 3, 5, 0);
    private State snapshot = null;
    private final ArrayDeque<State> history = new ArrayDeque<>();
    private String text = "";

    private static BigDecimal quotient(long dividend, long divisor) {
        return BigDecimal.valueOf(dividend).divide(BigDecimal.valueOf(divisor), 0, RoundingMode.FLOOR);
    }

    private void act(State next) {
        history.addLast(now);
        if (history.size() > 4) {
            history.removeFirst();
        }
        now = next;
    }

    private static <T> List<T> with(List<T> list, int index, T item) {
        List<T> copy = new ArrayList<>(list);
        if (index == copy.size()) {
            copy.add(item);
        } else {
            copy.set(index, item);
        }
        return List.copyOf(copy);
    }

    private boolean noEar(int ear) {
        return ear < 0 || ear >= now.ears.size();
    }

    private boolean noKnock(int knock) {
        return knock < 0 || knock >= now.knocks.size();
    }

    private State withEars(List<Ear> ears) {
        return new State(ears, now.thumps, now.knocks, now.pace, now.tolerance, now.latest);
    }

    int bury(int place) {
        if (place < 0 || place > 1000) {
            return -2;
        }
        if (now.ears.size() == 10) {
            return -3;
        }
        act(withEars(with(now.ears, now.ears.size(), new Ear(place, false, 0, 0))));
        return now.ears.size() - 1;
    }

    int setClock(int number, int offset, int drift) {
        if (noEar(number)) {
            return -1;
        }
        if (offset < -500 || offset > 500 || drift < -50 || drift > 50) {
            return -2;
        }
        Ear ear = now.ears.get(number);
        if (ear.offset == offset && ear.drift == drift) {
            return -5;
        }
        act(withEars(with(now.ears, number, new Ear(ear.place, ear.mute, offset, drift))));
        return 1;
    }

    int mute(int number, boolean is) {
        if (noEar(number)) {
            return -1;
        }
        Ear ear = now.ears.get(number);
        if (ear.mute == is) {
            return -5;
        }
        act(withEars(with(now.ears, number, new Ear(ear.place, is, ear.offset, ear.drift))));
        return count(6);
    }

    int set(int what, int value) {
        if (what == 0 && value >= 1 && value <= 20) {
            int previous = now.pace;
            if (previous == value) {
                return -5;
            }
            act(new State(now.ears, now.thumps, now.knocks, value, now.tolerance, now.latest));
            return previous;
        }
        if (what == 1 && value >= 0 && value <= 500) {
            int previous = now.tolerance;
            if (previous == value) {
                return -5;
            }
            act(new State(now.ears, now.thumps, now.knocks, now.pace, value, now.latest));
            return previous;
        }
        return -2;
    }

    private static int refusal(State state, Order order) {
        boolean place = order.place >= 0 && order.place <= 1000;
        boolean time = order.time >= 0 && order.time <= 100000;
        boolean reach = order.reach >= 1 && order.reach <= 1000;
        if (!(place && time && reach)) {
            return -2;
        }
        if (order.time < state.latest) {
            return -4;
        }
        return (order.knock ? state.knocks : state.thumps).size() == 10 ? -3 : 0;
    }

    private static State after(State state, Order order) {
        TreeMap<Integer, Integer> heard = new TreeMap<>();
        for (int ear = 0; ear < state.ears.size(); ear++) {
            int way = Math.abs(state.ears.get(ear).place - order.place);
            if (!state.ears.get(ear).mute && way <= order.reach) {
                heard.put(ear, state.ears.get(ear).reads(order.time + state.pace * way));
            }
        }
        Sound sound = new Sound(order.knock, order.place, order.time, state.pace, false, heard);
        List<Sound> thumps = order.knock ? state.thumps : with(state.thumps, state.thumps.size(), sound);
        List<Sound> knocks = order.knock ? with(state.knocks, state.knocks.size(), sound) : state.knocks;
        return new State(state.ears, thumps, knocks, state.pace, state.tolerance, order.time);
    }

    private int make(Order order) {
        int refusal = refusal(now, order);
        if (refusal != 0) {
            return refusal;
        }
        act(after(now, order));
        List<Sound> sounds = order.knock ? now.knocks : now.thumps;
        return sounds.get(sounds.size() - 1).heard.size();
    }

    int thump(int place, int time, int reach) {
        return make(new Order(false, place, time, reach));
    }

    int knock(int place, int time, int reach) {
        return make(new Order(true, place, time, reach));
    }

    int leaveOut(int thump, boolean is) {
        if (thump < 0 || thump >= now.thumps.size()) {
            return -1;
        }
        Sound sound = now.thumps.get(thump);
        if (sound.leftOut == is) {
            return -5;
        }
        Sound changed = new Sound(false, sound.place, sound.time, sound.pace, is, sound.heard);
        act(new State(now.ears, with(now.thumps, thump, changed), now.knocks, now.pace, now.tolerance, now.latest));
        return count(7);
    }

    private static final String NUMBER = "(0|[1-9][0-9]{0,5})";
    private static final String ORDER = "([tk])" + NUMBER + "@" + NUMBER + "(?:\\*" + NUMBER + ")?";
    private static final Pattern ORDERS = Pattern.compile(ORDER + "(?:;" + ORDER + ")*");

    /** The fault is the length of the longest beginning of the text that a text of orders can begin with. */
    private static int fault(String text) {
        if (ORDERS.matcher(text).matches()) {
            return -1;
        }
        int allowed = 0;
        for (int length = 1; length <= text.length(); length++) {
            Matcher matcher = ORDERS.matcher(text.substring(0, length));
            if (matcher.matches() || matcher.hitEnd()) {
                allowed = length;
            }
        }
        return allowed;
    }

    int readOrders() {
        int fault = fault(text);
        if (fault >= 0) {
            return -100 - fault;
        }
        State next = now;
        String[] orders = text.split(";");
        for (String written : orders) {
            String[] numbers = written.substring(1).split("[@*]");
            int reach = numbers.length > 2 ? Integer.parseInt(numbers[2]) : 1000;
            Order order = new Order(written.charAt(0) == 'k', Integer.parseInt(numbers[0]),
                Integer.parseInt(numbers[1]), reach);
            int refusal = refusal(next, order);
            if (refusal != 0) {
                return refusal;
            }
            next = after(next, order);
        }
        act(next);
        return orders.length;
    }

    int type(char character) {
        if (text.length() == 60) {
            return -3;
        }
        text += character;
        return text.length();
    }

    int clearText() {
        int length = text.length();
        text = "";
        return length;
    }

    int undo() {
        if (history.isEmpty()) {
            return -5;
        }
        now = history.removeLast();
        return history.size();
    }

    int keep() {
        snapshot = now;
        return now.thumps.size() + now.knocks.size();
    }

    int restore() {
        if (snapshot == null) {
            return -5;
        }
        act(snapshot);
        return now.thumps.size() + now.knocks.size();
    }

    int ear(int number, int what) {
        if (noEar(number)) {
            return -1;
        }
        Ear ear = now.ears.get(number);
        List<Mark> marks = marks(number);
        int heard = 0;
        for (Sound knock : now.knocks) {
            heard += knock.heard.containsKey(number) ? 1 : 0;
        }
        int latest = marks.isEmpty() ? -5 : marks.get(marks.size() - 1).reading + 10000;
        int[] answers = {ear.place, ear.mute ? 1 : 0, ear.offset + 1000, ear.drift + 1000, marks.size(), latest, heard};
        return what < 0 || what > 6 ? -2 : answers[what];
    }

    int clock(int ear, int time) {
        if (noEar(ear)) {
            return -1;
        }
        return time < 0 || time > 200000 ? -2 : now.ears.get(ear).reads(time) + 10000;
    }

    /** Takes each mark against every one ahead of it, those that do not count among them. */
    private List<Mark> marks(int ear) {
        List<Mark> all = new ArrayList<>();
        List<Mark> counting = new ArrayList<>();
        for (int thump = 0; thump < now.thumps.size(); thump++) {
            Sound sound = now.thumps.get(thump);
            if (sound.leftOut || !sound.heard.containsKey(ear)) {
                continue;
            }
            int reading = sound.heard.get(ear);
            int truth = sound.time + sound.pace * Math.abs(sound.place - now.ears.get(ear).place);
            Mark mark = new Mark(reading, reading - truth, thump);
            if (all.stream().allMatch(ahead -> ahead.reading < reading)) {
                counting.add(mark);
            }
            all.add(mark);
        }
        return counting;
    }

    int mark(int ear, int number, int what) {
        if (noEar(ear)) {
            return -1;
        }
        if (number < 0 || what < 0 || what > 2) {
            return -2;
        }
        List<Mark> marks = marks(ear);
        if (number >= marks.size()) {
            return -5;
        }
        Mark mark = marks.get(number);
        return what == 0 ? mark.reading + 10000 : what == 1 ? mark.error + 10000 : mark.thump;
    }

    private long errorAt(int ear, int reading) {
        List<Mark> marks = marks(ear);
        if (marks.isEmpty()) {
            return 0;
        }
        if (marks.size() == 1) {
            return 1000L * marks.get(0).error;
        }
        int latest = -1;
        for (int i = 0; i < marks.size(); i++) {
            if (marks.get(i).reading <= reading) {
                latest = i;
            }
        }
        Mark first;
        Mark second;
        if (latest < 0) {
            first = marks.get(0);
            second = marks.get(1);
        } else if (latest == marks.size() - 1) {
            first = marks.get(latest - 1);
            second = marks.get(latest);
        } else {
            first = marks.get(latest);
            second = marks.get(latest + 1);
        }
        long dividend = 1000L * (second.error - first.error) * (reading - first.reading);
        return 1000L * first.error + quotient(dividend, second.reading - first.reading).longValueExact();
    }

    long error(int ear, int reading) {
        if (noEar(ear)) {
            return Long.MIN_VALUE + 1;
        }
        return reading < -10000 || reading > 300000 ? Long.MIN_VALUE + 2 : errorAt(ear, reading);
    }

    int stalest() {
        int stalest = -5;
        int earliest = Integer.MAX_VALUE;
        for (int ear = now.ears.size() - 1; ear >= 0; ear--) {
            List<Mark> marks = marks(ear);
            int latest = marks.isEmpty() ? -1 : marks.get(marks.size() - 1).thump;
            if (latest <= earliest) {
                earliest = latest;
                stalest = ear;
            }
        }
        return stalest;
    }

    int heard(boolean knocks, int number, int ear) {
        List<Sound> sounds = knocks ? now.knocks : now.thumps;
        if (number < 0 || number >= sounds.size() || noEar(ear)) {
            return -1;
        }
        Integer reading = sounds.get(number).heard.get(ear);
        return reading == null ? -5 : reading + 10000;
    }

    private long right(int knock, int ear) {
        int reading = now.knocks.get(knock).heard.get(ear);
        return 1000L * reading - errorAt(ear, reading);
    }

    long putRight(int knock, int ear) {
        if (noKnock(knock) || noEar(ear)) {
            return Long.MIN_VALUE + 1;
        }
        return now.knocks.get(knock).heard.containsKey(ear) ? right(knock, ear) : Long.MIN_VALUE + 5;
    }

    /** The put right readings of a knock, by ear. */
    private TreeMap<Integer, Long> rights(int knock) {
        TreeMap<Integer, Long> rights = new TreeMap<>();
        for (int ear : now.knocks.get(knock).heard.keySet()) {
            rights.put(ear, right(knock, ear));
        }
        return rights;
    }

    /** The beginnings for a place, by ear. */
    private TreeMap<Integer, Long> beginnings(int knock, TreeMap<Integer, Long> rights, int place) {
        TreeMap<Integer, Long> beginnings = new TreeMap<>();
        rights.forEach((ear, right) -> {
            int way = Math.abs(place - now.ears.get(ear).place);
            beginnings.put(ear, right - 1000L * now.knocks.get(knock).pace * way);
        });
        return beginnings;
    }

    private static long spreadOf(TreeMap<Integer, Long> beginnings) {
        List<Long> sorted = beginnings.values().stream().sorted().toList();
        return sorted.get(sorted.size() - 1) - sorted.get(0);
    }

    private int placeOf(int knock) {
        TreeMap<Integer, Long> rights = rights(knock);
        TreeMap<Long, Integer> places = new TreeMap<>();
        for (int place = 1000; place >= 0; place--) {
            places.put(spreadOf(beginnings(knock, rights, place)), place);
        }
        return places.firstEntry().getValue();
    }

    long found(int knock, int what) {
        if (noKnock(knock)) {
            return Long.MIN_VALUE + 1;
        }
        if (what < 0 || what > 5) {
            return Long.MIN_VALUE + 2;
        }
        int hearers = now.knocks.get(knock).heard.size();
        if (what == 3) {
            return hearers;
        }
        if (hearers < 2) {
            return Long.MIN_VALUE + 4;
        }
        int place = placeOf(knock);
        TreeMap<Integer, Long> beginnings = beginnings(knock, rights(knock), place);
        List<Long> sorted = beginnings.values().stream().sorted().toList();
        long time = quotient(sorted.get(0) + sorted.get(sorted.size() - 1), 2).longValueExact();
        long spread = spreadOf(beginnings);
        if (what == 5) {
            long farthest = beginnings.values().stream().mapToLong(b -> Math.abs(b - time)).max().getAsLong();
            return beginnings.keySet().stream().filter(e -> Math.abs(beginnings.get(e) - time) == farthest)
                .findFirst().get();
        }
        return what == 0 ? place : what == 1 ? time : what == 2 ? spread : spread <= 1000L * now.tolerance ? 1 : 0;
    }

    long spread(int knock, int place) {
        if (noKnock(knock)) {
            return Long.MIN_VALUE + 1;
        }
        if (place < 0 || place > 1000) {
            return Long.MIN_VALUE + 2;
        }
        if (now.knocks.get(knock).heard.size() < 2) {
            return Long.MIN_VALUE + 4;
        }
        return spreadOf(beginnings(knock, rights(knock), place));
    }

    int truth(int knock, int what) {
        if (noKnock(knock)) {
            return -1;
        }
        if (what < 0 || what > 2) {
            return -2;
        }
        Sound sound = now.knocks.get(knock);
        if (what < 2) {
            return what == 0 ? sound.place : sound.time;
        }
        return sound.heard.size() < 2 ? -4 : Math.abs(placeOf(knock) - sound.place);
    }

    int count(int what) {
        int fitting = 0;
        for (int knock = 0; what == 8 && knock < now.knocks.size(); knock++) {
            fitting += found(knock, 4) == 1 ? 1 : 0;
        }
        int mutes = (int) now.ears.stream().filter(Ear::mute).count();
        int leftOut = (int) now.thumps.stream().filter(Sound::leftOut).count();
        int[] answers = {now.ears.size(), now.thumps.size(), now.knocks.size(), now.pace, now.tolerance, now.latest,
            mutes, leftOut, fitting, history.size(), text.length()};
        return what < 0 || what > 10 ? -2 : answers[what];
    }
}
