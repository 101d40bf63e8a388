import java.util.ArrayList;
import java.util.Arrays;
import java.util.Collections;
import java.util.HashMap;
import java.util.List;
import java.util.Map;
import java.util.NoSuchElementException;
import java.util.Set;
import java.util.TreeSet;

/**
 * The document told once more, in another and slower way, with the Java library: casts are searched part by part,
 * calls by trying every order, the agreement by looking at whole days. ModelTests holds the program against it.
 */
final class PlainWall {
    static final class Score {
        int minutes;
        boolean owned;
        boolean solo;
        final int[] parts = new int[6];
        final List<int[]> hires = new ArrayList<>();
        int spent;

        List<Integer> instruments() {
            List<Integer> all = new ArrayList<>();
            for (int instrument = 0; instrument < 6; instrument++) {
                all.addAll(Collections.nCopies(parts[instrument], instrument));
            }
            return all;
        }

        boolean there(int day) {
            return owned || hires.stream().anyMatch(hire -> day >= hire[0] && day - hire[0] < 7 * hire[1]);
        }
    }

    static final class Musician {
        int own;
        int doubles;
        int wage;
        final List<int[]> leaves = new ArrayList<>();
        final Set<Integer> refused = new TreeSet<>();

        boolean plays(int instrument) {
            return instrument == own || (doubles & 1 << instrument) != 0;
        }
    }

    static final class Room {
        int from;
        int to;
        final Set<Integer> given = new TreeSet<>();
    }

    static final class Soloist {
        int fee;
        int knows;
        final Set<Integer> days = new TreeSet<>();
    }

    static final class Date {
        char kind;
        int day;
        int start;
        int length;
        int hall;
        int series = -1;
        int guest = -1;
        boolean booked;
        int ran;
        final List<Integer> works = new ArrayList<>();
        final Set<Integer> absent = new TreeSet<>();
        final Map<Integer, List<Integer>> casts = new HashMap<>();

        Set<Integer> players() {
            Set<Integer> all = new TreeSet<>();
            casts.values().forEach(all::addAll);
            return all;
        }

        int bits() {
            return casts.keySet().stream().mapToInt(work -> 1 << work).sum();
        }
    }

    final List<Score> works = new ArrayList<>();
    final List<Musician> players = new ArrayList<>();
    final List<Room> halls = new ArrayList<>();
    final List<Date> dates = new ArrayList<>();
    final List<Soloist> guests = new ArrayList<>();

    // ---- refusing a call ----

    private static <T> T at(List<T> rows, int number) {
        if (number < 0 || number >= rows.size()) {
            throw new IndexOutOfBoundsException();
        }
        return rows.get(number);
    }

    private static void argument(boolean isRight) {
        if (!isRight) {
            throw new IllegalArgumentException();
        }
    }

    private static void supported(boolean isRight) {
        if (!isRight) {
            throw new UnsupportedOperationException();
        }
    }

    private static void state(boolean isRight) {
        if (!isRight) {
            throw new IllegalStateException();
        }
    }

    private static void element(boolean isThere) {
        if (!isThere) {
            throw new NoSuchElementException();
        }
    }

    private static boolean in(int number, int least, int most) {
        return least <= number && number <= most;
    }

    // ---- works, players, halls, guests ----

    int addWork(int minutes, boolean isOwned) {
        argument(in(minutes, 1, 90));
        state(works.size() < 12);
        Score added = new Score();
        added.minutes = minutes;
        added.owned = isOwned;
        works.add(added);
        return works.size() - 1;
    }

    private boolean used(int work) {
        return dates.stream().anyMatch(date -> date.works.contains(work));
    }

    int setParts(int work, int instrument, int many) {
        Score score = at(works, work);
        argument(in(instrument, 0, 5) && in(many, 0, 4));
        int[] parts = score.parts.clone();
        parts[instrument] = many;
        int all = Arrays.stream(parts).sum();
        supported(!used(work) && all <= 10);
        score.parts[instrument] = many;
        return all;
    }

    boolean setSolo(int work, boolean is) {
        Score score = at(works, work);
        supported(!used(work));
        boolean before = score.solo;
        score.solo = is;
        return before;
    }

    int hire(int work, int day, int weeks, int price) {
        Score score = at(works, work);
        argument(in(day, 0, 399) && in(weeks, 1, 20) && in(price, 1, 999));
        supported(!score.owned);
        state(score.hires.size() < 6);
        score.hires.add(new int[] {day, weeks});
        score.spent += weeks * price;
        return weeks * price;
    }

    boolean isScoreThere(int work, int day) {
        Score score = at(works, work);
        argument(in(day, 0, 399));
        return score.there(day);
    }

    int addPlayer(int instrument, int doubles, int wage) {
        argument(in(instrument, 0, 5) && in(doubles, 0, 63) && in(wage, 1, 999));
        state(players.size() < 14);
        Musician added = new Musician();
        added.own = instrument;
        added.doubles = doubles;
        added.wage = wage;
        players.add(added);
        return players.size() - 1;
    }

    int leave(int player, int from, int to) {
        Musician who = at(players, player);
        argument(in(from, 0, 399) && in(to, from, 399));
        supported(dates.stream().noneMatch(date -> in(date.day, from, to) && date.players().contains(player)));
        state(who.leaves.size() < 5);
        who.leaves.add(new int[] {from, to});
        return who.leaves.size();
    }

    boolean refuse(int player, int work, boolean is) {
        Musician who = at(players, player);
        at(works, work);
        boolean before = who.refused.contains(work);
        if (is) {
            who.refused.add(work);
        } else {
            who.refused.remove(work);
        }
        return before;
    }

    int addHall(int from, int to) {
        argument(in(from, 0, 92) && to >= from + 4L && to <= 96);
        state(halls.size() < 4);
        Room added = new Room();
        added.from = from;
        added.to = to;
        halls.add(added);
        return halls.size() - 1;
    }

    boolean give(int hall, int day, boolean is) {
        Room room = at(halls, hall);
        argument(in(day, 0, 399));
        supported(dates.stream().noneMatch(date -> date.hall == hall && date.day == day));
        boolean before = room.given.contains(day);
        if (is) {
            room.given.add(day);
        } else {
            room.given.remove(day);
        }
        return before;
    }

    int addGuest(int fee, int knows) {
        argument(in(fee, 0, 9999) && in(knows, 0, 4095));
        state(guests.size() < 5);
        Soloist added = new Soloist();
        added.fee = fee;
        added.knows = knows;
        guests.add(added);
        return guests.size() - 1;
    }

    int elsewhere(int guest, int day) {
        Soloist who = at(guests, guest);
        argument(in(day, 0, 399));
        state(who.days.size() < 20 || who.days.contains(day));
        who.days.add(day);
        return who.days.size();
    }

    // ---- services ----

    int addService(char kind, int day, int start, int length, int hall) {
        Room room = at(halls, hall);
        argument("rcs".indexOf(kind) >= 0 && in(day, 0, 399) && in(start, 0, 95) && in(length, 4, 16));
        supported(start >= room.from && start + length <= room.to && !room.given.contains(day));
        boolean[] taken = new boolean[200];
        for (Date date : dates) {
            if (date.hall == hall && date.day == day) {
                Arrays.fill(taken, 10 + date.start - 4, 10 + date.start + date.length + 4, true);
            }
        }
        for (int quarter = start; quarter < start + length; quarter++) {
            supported(!taken[10 + quarter]);
        }
        state(dates.size() < 30);
        Date added = new Date();
        added.kind = kind;
        added.day = day;
        added.start = start;
        added.length = length;
        added.hall = hall;
        dates.add(added);
        return dates.size() - 1;
    }

    private boolean twiceInSeries() {
        for (Date one : dates) {
            for (Date other : dates) {
                if (one != other && one.series >= 0 && one.series == other.series
                        && Math.abs(one.day - other.day) < 100 && !Collections.disjoint(one.works, other.works)) {
                    return true;
                }
            }
        }
        return false;
    }

    int add(int service, int work) {
        Date date = at(dates, service);
        at(works, work);
        supported(!date.booked && !date.works.contains(work) && date.works.size() < 6);
        int minutes = works.get(work).minutes + (date.kind == 'c' ? 20 : 0);
        for (int each : date.works) {
            minutes += works.get(each).minutes;
        }
        supported(minutes <= 15 * date.length);
        date.works.add(work);
        boolean twice = twiceInSeries();
        if (twice) {
            date.works.remove(date.works.size() - 1);
        }
        supported(!twice);
        return date.works.size();
    }

    int remove(int service, int work) {
        Date date = at(dates, service);
        at(works, work);
        supported(!date.booked && date.works.contains(work));
        date.works.remove((Integer) work);
        return date.works.size();
    }

    int setSeries(int service, int series) {
        Date date = at(dates, service);
        argument(in(series, -1, 3));
        supported(date.kind == 'c');
        int before = date.series;
        date.series = series;
        boolean twice = twiceInSeries();
        if (twice) {
            date.series = before;
        }
        supported(!twice);
        return before;
    }

    // ---- guests of services ----

    private List<Integer> solos(Date date) {
        return date.works.stream().filter(work -> works.get(work).solo).toList();
    }

    private boolean knows(int guest, int work) {
        return guest >= 0 && (guests.get(guest).knows & 1 << work) != 0;
    }

    private boolean canCome(Date date, int guest) {
        boolean isNear = guests.get(guest).days.stream().anyMatch(day -> in(day, date.day - 6, date.day + 6));
        boolean isTaken = dates.stream().anyMatch(other -> other != date && other.guest == guest
                && other.day == date.day);
        return solos(date).stream().anyMatch(work -> knows(guest, work)) && !isNear && !isTaken;
    }

    int engage(int service, int guest) {
        Date date = at(dates, service);
        at(guests, guest);
        supported(!date.booked && canCome(date, guest));
        int before = date.guest;
        date.guest = guest;
        return before;
    }

    int cancelGuest(int service) {
        Date date = at(dates, service);
        element(date.guest >= 0);
        int who = date.guest;
        int instead = -1;
        for (int guest = guests.size() - 1; guest >= 0; guest--) {
            int other = guest;
            boolean knowsAll = solos(date).stream().allMatch(work -> !knows(who, work) || knows(other, work));
            if (guest != who && knowsAll && canCome(date, guest)
                    && (instead < 0 || guests.get(guest).fee <= guests.get(instead).fee)) {
                instead = guest;
            }
        }
        date.guest = instead;
        if (instead < 0) {
            solos(date).forEach(date.casts::remove);
        }
        return instead;
    }

    int guestOf(int service) {
        Date date = at(dates, service);
        element(date.guest >= 0);
        return date.guest;
    }

    // ---- the agreement ----

    private boolean keeps(List<Date> all) {
        for (int day = 0; day < 400; day++) {
            int today = day;
            List<Date> here = new ArrayList<>(all.stream().filter(date -> date.day == today).toList());
            here.sort((one, other) -> Integer.compare(one.start, other.start));
            if (here.size() > 2
                    || here.size() == 2 && here.get(0).start + here.get(0).length + 2 > here.get(1).start) {
                return false;
            }
            int end = here.stream().mapToInt(date -> date.start + date.length).max().orElse(-1000);
            int next = all.stream().filter(date -> date.day == today + 1).mapToInt(date -> date.start).min()
                    .orElse(1000);
            if (96 - end + next < 44
                    || all.stream().filter(date -> in(date.day, today, today + 6)).count() > 8) {
                return false;
            }
        }
        return true;
    }

    private boolean free(int player, Date wanted) {
        List<Date> all = new ArrayList<>(dates.stream().filter(date -> date != wanted
                && date.players().contains(player)).toList());
        all.add(wanted);
        return players.get(player).leaves.stream().noneMatch(leave -> in(wanted.day, leave[0], leave[1])) && keeps(all);
    }

    boolean isFree(int player, int service) {
        at(players, player);
        return free(player, at(dates, service));
    }

    int services(int player) {
        at(players, player);
        return (int) dates.stream().filter(date -> date.players().contains(player)).count();
    }

    // ---- casts ----

    /** The best way to fill the parts from one on, by the players that are still to be had. */
    private static final class Search {
        final List<Integer> instruments;
        final List<Musician> all;
        final Set<Integer> able;
        final Set<Integer> paid;
        final int[] others;
        final Map<Integer, int[]> known = new HashMap<>();

        Search(List<Integer> instruments, List<Musician> all, Set<Integer> able, Set<Integer> paid, int[] others) {
            this.instruments = instruments;
            this.all = all;
            this.able = able;
            this.paid = paid;
            this.others = others;
        }

        /** Cost, others, and the player of this part; null if there is no way. */
        int[] from(int part, int used) {
            if (part == instruments.size()) {
                return new int[] {0, 0, -1};
            }
            if (!known.containsKey(used)) {
                int[] best = null;
                for (int player : able) {
                    Musician who = all.get(player);
                    int instrument = instruments.get(part);
                    int[] rest = (used & 1 << player) != 0 || !who.plays(instrument) ? null
                            : from(part + 1, used | 1 << player);
                    if (rest != null) {
                        int cost = rest[0] + (paid.contains(player) ? 0 : who.wage) + (instrument == who.own ? 0 : 10);
                        int many = rest[1] + others[player];
                        if (best == null || cost < best[0] || cost == best[0] && many < best[1]) {
                            best = new int[] {cost, many, player};
                        }
                    }
                }
                known.put(used, best);
            }
            return known.get(used);
        }

        List<Integer> cast() {
            if (from(0, 0) == null) {
                return null;
            }
            List<Integer> cast = new ArrayList<>();
            int used = 0;
            for (int part = 0; part < instruments.size(); part++) {
                int player = from(part, used)[2];
                cast.add(player);
                used |= 1 << player;
            }
            return cast;
        }
    }

    private Map<Integer, List<Integer>> castNow(Date date) {
        Map<Integer, List<Integer>> before = new HashMap<>(date.casts);
        date.casts.clear();
        Set<Integer> free = new TreeSet<>();
        int[] others = new int[players.size()];
        for (int player = 0; player < players.size(); player++) {
            others[player] = services(player);
            if (!date.absent.contains(player) && free(player, date)) {
                free.add(player);
            }
        }
        for (int work : date.works) {
            Score score = works.get(work);
            Set<Integer> able = new TreeSet<>(free);
            able.removeIf(player -> players.get(player).refused.contains(work));
            List<Integer> cast = new Search(score.instruments(), players, able, date.players(), others).cast();
            if (cast != null && score.there(date.day) && (!score.solo || knows(date.guest, work))) {
                date.casts.put(work, cast);
            }
        }
        return before;
    }

    int book(int service) {
        Date date = at(dates, service);
        supported(!date.booked);
        castNow(date);
        supported(!date.casts.isEmpty());
        date.booked = true;
        date.ran = date.length;
        return cost(service);
    }

    int unbook(int service) {
        Date date = at(dates, service);
        supported(date.booked);
        int before = cost(service);
        date.booked = false;
        date.absent.clear();
        date.casts.clear();
        return before;
    }

    boolean isBooked(int service) {
        return at(dates, service).booked;
    }

    int away(int service, int player) {
        Date date = at(dates, service);
        at(players, player);
        supported(date.booked && !date.absent.contains(player));
        date.absent.add(player);
        castNow(date);
        return date.bits();
    }

    boolean stands(int service, int work) {
        Date date = at(dates, service);
        at(works, work);
        return date.casts.containsKey(work);
    }

    int castAt(int service, int work, int part) {
        Date date = at(dates, service);
        at(works, work);
        element(date.casts.containsKey(work) && in(part, 0, date.casts.get(work).size() - 1));
        return date.casts.get(work).get(part);
    }

    int cost(int service) {
        Date date = at(dates, service);
        if (!date.booked) {
            return 0;
        }
        int sum = date.guest < 0 ? 0 : guests.get(date.guest).fee;
        for (int player : date.players()) {
            sum += players.get(player).wage;
        }
        for (int work : date.casts.keySet()) {
            List<Integer> instruments = works.get(work).instruments();
            for (int part = 0; part < instruments.size(); part++) {
                sum += players.get(date.casts.get(work).get(part)).own == instruments.get(part) ? 0 : 10;
            }
        }
        return sum;
    }

    // ---- rehearsals ----

    private void orders(List<Integer> begun, List<Integer> left, List<List<Integer>> all) {
        if (left.isEmpty()) {
            all.add(new ArrayList<>(begun));
        }
        for (int work : left) {
            List<Integer> others = new ArrayList<>(left);
            others.remove((Integer) work);
            begun.add(work);
            orders(begun, others, all);
            begun.remove(begun.size() - 1);
        }
    }

    private int waitingIn(Date date, List<Integer> order) {
        int sum = 0;
        for (int player : date.players()) {
            List<Integer> own = order.stream().filter(work -> date.casts.get(work).contains(player)).toList();
            int first = order.indexOf(own.get(0));
            int last = order.indexOf(own.get(own.size() - 1));
            for (int place = first; place <= last; place++) {
                sum += own.contains(order.get(place)) ? 0 : works.get(order.get(place)).minutes;
            }
        }
        return sum;
    }

    private List<Integer> bestOrder(Date date) {
        supported(date.kind == 'r' && date.booked);
        List<List<Integer>> all = new ArrayList<>();
        orders(new ArrayList<>(), new ArrayList<>(new TreeSet<>(date.casts.keySet())), all);
        List<Integer> best = all.get(0);
        for (List<Integer> order : all) {
            if (waitingIn(date, order) < waitingIn(date, best)) {
                best = order;
            }
        }
        return best;
    }

    int callAt(int service, int index) {
        List<Integer> order = bestOrder(at(dates, service));
        element(in(index, 0, order.size() - 1));
        return order.get(index);
    }

    int waiting(int service) {
        Date date = at(dates, service);
        return waitingIn(date, bestOrder(date));
    }

    // ---- overtime and sums ----

    int ran(int service, int quarters) {
        Date date = at(dates, service);
        argument(in(quarters, 4, 32));
        supported(date.booked);
        date.ran = quarters;
        return overtime(service);
    }

    int overtime(int service) {
        Date date = at(dates, service);
        int sum = 0;
        for (int quarter = 10; date.booked && quarter < date.ran; quarter++) {
            for (int player : date.players()) {
                sum += players.get(player).wage / 10;
            }
        }
        return sum;
    }

    int lastPlayed(int work) {
        at(works, work);
        int last = dates.stream().filter(date -> date.kind == 'c' && date.casts.containsKey(work))
                .mapToInt(date -> date.day).max().orElse(-1);
        element(last >= 0);
        return last;
    }

    int howOften(int player, int work) {
        at(players, player);
        at(works, work);
        return (int) dates.stream().filter(date -> date.kind == 'c' && date.casts.containsKey(work)
                && date.casts.get(work).contains(player)).count();
    }

    int total() {
        int sum = works.stream().mapToInt(work -> work.spent).sum();
        for (int service = 0; service < dates.size(); service++) {
            sum += cost(service) + overtime(service);
        }
        return sum;
    }

    int rehearsed(int work) {
        Score score = at(works, work);
        return (int) dates.stream().filter(date -> date.kind == 'r' && date.casts.containsKey(work)).count()
                * score.minutes;
    }

    long checksum() {
        long sum = 7;
        for (int service = 0; service < dates.size(); service++) {
            sum = 31 * sum + cost(service);
            sum = 31 * sum + dates.get(service).bits();
            sum = 31 * sum + dates.get(service).guest;
        }
        for (int player = 0; player < players.size(); player++) {
            sum = 31 * sum + services(player);
        }
        return 31 * sum + total();
    }

    float bookedShare() {
        if (dates.isEmpty()) {
            throw new ArithmeticException();
        }
        return (float) dates.stream().filter(date -> date.booked).count() / (float) dates.size();
    }

    double meanServices() {
        if (players.isEmpty()) {
            throw new ArithmeticException();
        }
        int sum = 0;
        for (int player = 0; player < players.size(); player++) {
            sum += services(player);
        }
        return (double) sum / (double) players.size();
    }

    boolean isSound() {
        return true;
    }
}
