import java.util.NoSuchElementException;

/**
 * An orchestra's year on one wall: works, players, halls, guests, services and their bookings.
 *
 * Sets of works or players are held as the bits of an int: bit n is the one with the number n.
 * All rows are made once, in the constructor, so that no call makes an object but the exception that it throws.
 */
public final class Seasonbook {
    private static final int MOST_WORKS = 12;
    private static final int MOST_PLAYERS = 14;
    private static final int MOST_HALLS = 4;
    private static final int MOST_SERVICES = 30;
    private static final int MOST_GUESTS = 5;

    private static final int INSTRUMENTS = 6;
    private static final int MOST_PARTS_OF_ONE = 4;
    private static final int MOST_PARTS = 10;
    private static final int MOST_WORKS_IN_SERVICE = 6;
    private static final int MOST_HIRES = 6;
    private static final int MOST_LEAVES = 5;
    private static final int MOST_DAYS_ELSEWHERE = 20;

    private static final int LAST_DAY = 399;
    private static final int WEEK = 7;
    private static final int DAY_QUARTERS = 96;
    private static final int QUARTER_MINUTES = 15;
    private static final int CONCERT_EXTRA_MINUTES = 20;
    private static final int SERIES_DAYS = 100;
    private static final int HALL_GAP = 4;
    private static final int PLAYER_GAP = 2;
    private static final int NIGHT_REST = 44;
    private static final int MOST_A_DAY = 2;
    private static final int MOST_A_WEEK = 8;

    private static final int DOUBLING_COST = 10;
    private static final int QUARTERS_PAID_BY_WAGE = 10;
    private static final int OVERTIME_SHARE = 10;

    private static final char REHEARSAL = 'r';
    private static final char CONCERT = 'c';
    private static final char SESSION = 's';
    private static final int NONE = -1;

    private final Work[] works = new Work[MOST_WORKS];
    private final Player[] players = new Player[MOST_PLAYERS];
    private final Hall[] halls = new Hall[MOST_HALLS];
    private final Service[] planned = new Service[MOST_SERVICES];
    private final Guest[] guests = new Guest[MOST_GUESTS];
    private final Casting casting = new Casting();
    private final CallOrder callOrder = new CallOrder();
    private int workCount;
    private int playerCount;
    private int hallCount;
    private int plannedCount;
    private int guestCount;

    public Seasonbook() {
        for (int work = 0; work < MOST_WORKS; work++) {
            works[work] = new Work();
        }
        for (int player = 0; player < MOST_PLAYERS; player++) {
            players[player] = new Player();
        }
        for (int hall = 0; hall < MOST_HALLS; hall++) {
            halls[hall] = new Hall();
        }
        for (int service = 0; service < MOST_SERVICES; service++) {
            planned[service] = new Service();
        }
        for (int guest = 0; guest < MOST_GUESTS; guest++) {
            guests[guest] = new Guest();
        }
    }

    // ---- works and their scores ----

    public int addWork(int minutes, boolean isOwned) throws IllegalArgumentException, IllegalStateException {
        checkRange(minutes, 1, 90);
        if (workCount >= MOST_WORKS) {
            throw new IllegalStateException("there are 12 works");
        }
        Work row = works[workCount];
        row.minutes = minutes;
        row.isOwned = isOwned;
        workCount++;
        return workCount - 1;
    }

    public int setParts(int work, int instrument, int many)
            throws IndexOutOfBoundsException, IllegalArgumentException, UnsupportedOperationException {
        Work row = workRow(work);
        checkRange(instrument, 0, INSTRUMENTS - 1);
        checkRange(many, 0, MOST_PARTS_OF_ONE);
        int all = row.partCount - row.parts[instrument] + many;
        if (isInAnyService(work) || all > MOST_PARTS) {
            throw new UnsupportedOperationException("the work is in a service or would have too many parts");
        }
        row.parts[instrument] = many;
        row.partCount = all;
        return all;
    }

    public boolean setSolo(int work, boolean is) throws IndexOutOfBoundsException, UnsupportedOperationException {
        Work row = workRow(work);
        if (isInAnyService(work)) {
            throw new UnsupportedOperationException("the work is in a service");
        }
        boolean before = row.needsSoloist;
        row.needsSoloist = is;
        return before;
    }

    public int hire(int work, int day, int weeks, int price)
            throws IndexOutOfBoundsException, IllegalArgumentException, UnsupportedOperationException,
            IllegalStateException {
        Work row = workRow(work);
        checkRange(day, 0, LAST_DAY);
        checkRange(weeks, 1, 20);
        checkRange(price, 1, 999);
        if (row.isOwned) {
            throw new UnsupportedOperationException("the score is owned");
        }
        if (row.hireCount >= MOST_HIRES) {
            throw new IllegalStateException("the score was hired 6 times");
        }
        row.noteHire(day, day + weeks * WEEK);
        row.hireCost += weeks * price;
        return weeks * price;
    }

    public boolean isScoreThere(int work, int day) throws IndexOutOfBoundsException, IllegalArgumentException {
        Work row = workRow(work);
        checkRange(day, 0, LAST_DAY);
        return row.hasScoreOn(day);
    }

    // ---- players ----

    public int addPlayer(int instrument, int doubles, int wage)
            throws IllegalArgumentException, IllegalStateException {
        checkRange(instrument, 0, INSTRUMENTS - 1);
        checkRange(doubles, 0, 63);
        checkRange(wage, 1, 999);
        if (playerCount >= MOST_PLAYERS) {
            throw new IllegalStateException("there are 14 players");
        }
        Player row = players[playerCount];
        row.instrument = instrument;
        row.doubles = doubles;
        row.wage = wage;
        playerCount++;
        return playerCount - 1;
    }

    public int leave(int player, int from, int to)
            throws IndexOutOfBoundsException, IllegalArgumentException, UnsupportedOperationException,
            IllegalStateException {
        Player row = playerRow(player);
        checkRange(from, 0, LAST_DAY);
        checkRange(to, from, LAST_DAY);
        if (isCastBetween(player, from, to)) {
            throw new UnsupportedOperationException("the player is booked on one of these days");
        }
        if (row.leaveCount >= MOST_LEAVES) {
            throw new IllegalStateException("the player has leave 5 times");
        }
        row.noteLeave(from, to);
        return row.leaveCount;
    }

    public boolean refuse(int player, int work, boolean is) throws IndexOutOfBoundsException {
        Player row = playerRow(player);
        checkWork(work);
        boolean before = hasBit(row.refused, work);
        row.refused = is ? row.refused | 1 << work : row.refused & ~(1 << work);
        return before;
    }

    // ---- halls ----

    public int addHall(int from, int to) throws IllegalArgumentException, IllegalStateException {
        checkRange(from, 0, DAY_QUARTERS - 4);
        checkRange(to, from + 4, DAY_QUARTERS);
        if (hallCount >= MOST_HALLS) {
            throw new IllegalStateException("there are 4 halls");
        }
        Hall row = halls[hallCount];
        row.from = from;
        row.to = to;
        hallCount++;
        return hallCount - 1;
    }

    public boolean give(int hall, int day, boolean is)
            throws IndexOutOfBoundsException, IllegalArgumentException, UnsupportedOperationException {
        Hall row = hallRow(hall);
        checkRange(day, 0, LAST_DAY);
        if (isHallUsed(hall, day)) {
            throw new UnsupportedOperationException("there is a service in the hall on that day");
        }
        boolean before = row.isGivenOn(day);
        row.noteGiven(day, is);
        return before;
    }

    // ---- services and their works ----

    public int addService(char kind, int day, int start, int length, int hall)
            throws IndexOutOfBoundsException, IllegalArgumentException, UnsupportedOperationException,
            IllegalStateException {
        Hall place = hallRow(hall);
        checkKind(kind);
        checkRange(day, 0, LAST_DAY);
        checkRange(start, 0, DAY_QUARTERS - 1);
        checkRange(length, 4, 16);
        int end = start + length;
        if (start < place.from || end > place.to || place.isGivenOn(day) || isHallTaken(hall, day, start, end)) {
            throw new UnsupportedOperationException("the hall is not to be had for all of it");
        }
        if (plannedCount >= MOST_SERVICES) {
            throw new IllegalStateException("there are 30 services");
        }
        Service row = planned[plannedCount];
        row.kind = kind;
        row.day = day;
        row.start = start;
        row.end = end;
        row.hall = hall;
        plannedCount++;
        return plannedCount - 1;
    }

    public int add(int service, int work) throws IndexOutOfBoundsException, UnsupportedOperationException {
        Service row = serviceRow(service);
        Work added = workRow(work);
        if (row.isBooked || row.placeOf(work) != NONE || row.workCount >= MOST_WORKS_IN_SERVICE) {
            throw new UnsupportedOperationException("the service is booked, has the work, or has 6");
        }
        if (minutesOf(row) + added.minutes > row.mostMinutes() || seriesForbids(service, row.series, 1 << work)) {
            throw new UnsupportedOperationException("the service would be too long, or its series forbids the work");
        }
        row.append(work);
        return row.workCount;
    }

    public int remove(int service, int work) throws IndexOutOfBoundsException, UnsupportedOperationException {
        Service row = serviceRow(service);
        checkWork(work);
        int place = row.placeOf(work);
        if (row.isBooked || place == NONE) {
            throw new UnsupportedOperationException("the service is booked, or has not the work");
        }
        row.takeOut(place);
        return row.workCount;
    }

    public int setSeries(int service, int series)
            throws IndexOutOfBoundsException, IllegalArgumentException, UnsupportedOperationException {
        Service row = serviceRow(service);
        checkRange(series, NONE, 3);
        if (row.kind != CONCERT || seriesForbids(service, series, row.allWorks())) {
            throw new UnsupportedOperationException("the service is no concert, or the series forbids it");
        }
        int before = row.series;
        row.series = series;
        return before;
    }

    // ---- guests ----

    public int addGuest(int fee, int knows) throws IllegalArgumentException, IllegalStateException {
        checkRange(fee, 0, 9999);
        checkRange(knows, 0, 4095);
        if (guestCount >= MOST_GUESTS) {
            throw new IllegalStateException("there are 5 guests");
        }
        Guest row = guests[guestCount];
        row.fee = fee;
        row.knows = knows;
        guestCount++;
        return guestCount - 1;
    }

    public int elsewhere(int guest, int day)
            throws IndexOutOfBoundsException, IllegalArgumentException, IllegalStateException {
        Guest row = guestRow(guest);
        checkRange(day, 0, LAST_DAY);
        if (row.isElsewhereNear(day, 1)) {
            return row.dayCount;
        }
        if (row.dayCount >= MOST_DAYS_ELSEWHERE) {
            throw new IllegalStateException("there are 20 such days");
        }
        row.noteElsewhere(day);
        return row.dayCount;
    }

    public int engage(int service, int guest) throws IndexOutOfBoundsException, UnsupportedOperationException {
        Service row = serviceRow(service);
        checkGuest(guest);
        if (row.isBooked || !canEngage(service, guest)) {
            throw new UnsupportedOperationException("the service is booked, or the guest cannot be engaged");
        }
        int before = row.guest;
        row.guest = guest;
        return before;
    }

    public int cancelGuest(int service) throws IndexOutOfBoundsException, NoSuchElementException {
        Service row = serviceRow(service);
        if (row.guest == NONE) {
            throw new NoSuchElementException("the service has no guest");
        }
        row.guest = findInstead(service, row.guest);
        if (row.guest == NONE) {
            leaveOut(row, soloWorks(row));
        }
        return row.guest;
    }

    public int guestOf(int service) throws IndexOutOfBoundsException, NoSuchElementException {
        Service row = serviceRow(service);
        if (row.guest == NONE) {
            throw new NoSuchElementException("the service has no guest");
        }
        return row.guest;
    }

    // ---- bookings and casts ----

    public int book(int service) throws IndexOutOfBoundsException, UnsupportedOperationException {
        Service row = serviceRow(service);
        if (row.isBooked) {
            throw new UnsupportedOperationException("the service is booked");
        }
        castAnew(service);
        if (row.standing == 0) {
            throw new UnsupportedOperationException("no work is left");
        }
        row.isBooked = true;
        row.quarters = row.end - row.start;
        return costOf(row);
    }

    public int unbook(int service) throws IndexOutOfBoundsException, UnsupportedOperationException {
        Service row = serviceRow(service);
        if (!row.isBooked) {
            throw new UnsupportedOperationException("the service is not booked");
        }
        int before = costOf(row);
        row.isBooked = false;
        row.absent = 0;
        row.dropCasts();
        return before;
    }

    public boolean isBooked(int service) throws IndexOutOfBoundsException {
        return serviceRow(service).isBooked;
    }

    public int away(int service, int player) throws IndexOutOfBoundsException, UnsupportedOperationException {
        Service row = serviceRow(service);
        checkPlayer(player);
        if (!row.isBooked || hasBit(row.absent, player)) {
            throw new UnsupportedOperationException("the service is not booked, or that was told");
        }
        row.absent |= 1 << player;
        castAnew(service);
        return row.standing;
    }

    public boolean stands(int service, int work) throws IndexOutOfBoundsException {
        Service row = serviceRow(service);
        checkWork(work);
        return hasBit(row.standing, work);
    }

    public int castAt(int service, int work, int part) throws IndexOutOfBoundsException, NoSuchElementException {
        Service row = serviceRow(service);
        Work played = workRow(work);
        int place = row.placeOf(work);
        if (place == NONE || !hasBit(row.standing, work) || part < 0 || part >= played.partCount) {
            throw new NoSuchElementException("the work does not stand there, or there is no such part");
        }
        return Casting.playerOf(row.casts[place], part);
    }

    public int cost(int service) throws IndexOutOfBoundsException {
        return costOf(serviceRow(service));
    }

    public boolean isFree(int player, int service) throws IndexOutOfBoundsException {
        checkPlayer(player);
        checkService(service);
        return isFreeFor(player, service);
    }

    public int services(int player) throws IndexOutOfBoundsException {
        checkPlayer(player);
        return countServices(player);
    }

    // ---- rehearsals and overtime ----

    public int callAt(int service, int index)
            throws IndexOutOfBoundsException, UnsupportedOperationException, NoSuchElementException {
        orderCalls(bookedRehearsal(service));
        if (index < 0 || index >= callOrder.count) {
            throw new NoSuchElementException("there is no such call");
        }
        return callOrder.workAt(index);
    }

    public int waiting(int service) throws IndexOutOfBoundsException, UnsupportedOperationException {
        orderCalls(bookedRehearsal(service));
        return callOrder.leastWaiting[0];
    }

    public int ran(int service, int quarters)
            throws IndexOutOfBoundsException, IllegalArgumentException, UnsupportedOperationException {
        Service row = serviceRow(service);
        checkRange(quarters, 4, 32);
        if (!row.isBooked) {
            throw new UnsupportedOperationException("the service is not booked");
        }
        row.quarters = quarters;
        return overtimeOf(row);
    }

    public int overtime(int service) throws IndexOutOfBoundsException {
        return overtimeOf(serviceRow(service));
    }

    // ---- who played what, and sums ----

    public int lastPlayed(int work) throws IndexOutOfBoundsException, NoSuchElementException {
        checkWork(work);
        int last = NONE;
        for (int service = 0; service < plannedCount; service++) {
            Service row = planned[service];
            if (row.kind == CONCERT && hasBit(row.standing, work)) {
                last = Math.max(last, row.day);
            }
        }
        if (last == NONE) {
            throw new NoSuchElementException("the work stands in no booked concert");
        }
        return last;
    }

    public int howOften(int player, int work) throws IndexOutOfBoundsException {
        checkPlayer(player);
        checkWork(work);
        int times = 0;
        for (int service = 0; service < plannedCount; service++) {
            Service row = planned[service];
            if (row.kind == CONCERT && hasBit(playersIn(row, work), player)) {
                times++;
            }
        }
        return times;
    }

    public int total() {
        int sum = 0;
        for (int service = 0; service < plannedCount; service++) {
            sum += costOf(planned[service]) + overtimeOf(planned[service]);
        }
        for (int work = 0; work < workCount; work++) {
            sum += works[work].hireCost;
        }
        return sum;
    }

    public int rehearsed(int work) throws IndexOutOfBoundsException {
        Work row = workRow(work);
        int minutes = 0;
        for (int service = 0; service < plannedCount; service++) {
            if (planned[service].kind == REHEARSAL && hasBit(planned[service].standing, work)) {
                minutes += row.minutes;
            }
        }
        return minutes;
    }

    public long checksum() {
        long sum = 7;
        for (int service = 0; service < plannedCount; service++) {
            Service row = planned[service];
            sum = 31 * sum + costOf(row);
            sum = 31 * sum + row.standing;
            sum = 31 * sum + row.guest;
        }
        for (int player = 0; player < playerCount; player++) {
            sum = 31 * sum + countServices(player);
        }
        return 31 * sum + total();
    }

    public float bookedShare() throws ArithmeticException {
        if (plannedCount == 0) {
            throw new ArithmeticException("there are no services");
        }
        int booked = 0;
        for (int service = 0; service < plannedCount; service++) {
            if (planned[service].isBooked) {
                booked++;
            }
        }
        return (float) booked / (float) plannedCount;
    }

    public double meanServices() throws ArithmeticException {
        if (playerCount == 0) {
            throw new ArithmeticException("there are no players");
        }
        int sum = 0;
        for (int player = 0; player < playerCount; player++) {
            sum += countServices(player);
        }
        return (double) sum / (double) playerCount;
    }

    public boolean isSound() {
        return areCastsSound() && isAgreementKept() && areHallsSound() && areGuestsSound();
    }

    // ---- what is asked of numbers ----

    private static void checkRange(int number, int least, int most) {
        if (number < least || number > most) {
            throw new IllegalArgumentException("a number is out of range");
        }
    }

    private static void checkKind(char kind) {
        if (kind != REHEARSAL && kind != CONCERT && kind != SESSION) {
            throw new IllegalArgumentException("there is no such kind");
        }
    }

    private static void checkNumber(int number, int count) {
        if (number < 0 || number >= count) {
            throw new IndexOutOfBoundsException("there is none of that number");
        }
    }

    private void checkWork(int work) {
        checkNumber(work, workCount);
    }

    private void checkPlayer(int player) {
        checkNumber(player, playerCount);
    }

    private void checkService(int service) {
        checkNumber(service, plannedCount);
    }

    private void checkGuest(int guest) {
        checkNumber(guest, guestCount);
    }

    private Work workRow(int work) {
        checkWork(work);
        return works[work];
    }

    private Player playerRow(int player) {
        checkPlayer(player);
        return players[player];
    }

    private Hall hallRow(int hall) {
        checkNumber(hall, hallCount);
        return halls[hall];
    }

    private Service serviceRow(int service) {
        checkService(service);
        return planned[service];
    }

    private Guest guestRow(int guest) {
        checkGuest(guest);
        return guests[guest];
    }

    private Service bookedRehearsal(int service) {
        Service row = serviceRow(service);
        if (row.kind != REHEARSAL || !row.isBooked) {
            throw new UnsupportedOperationException("the service is no rehearsal that is booked");
        }
        return row;
    }

    private static boolean hasBit(int bits, int number) {
        return (bits >> number & 1) != 0;
    }

    // ---- halls and works of services ----

    private boolean isHallUsed(int hall, int day) {
        for (int service = 0; service < plannedCount; service++) {
            if (planned[service].hall == hall && planned[service].day == day) {
                return true;
            }
        }
        return false;
    }

    private boolean isHallTaken(int hall, int day, int start, int end) {
        for (int service = 0; service < plannedCount; service++) {
            Service row = planned[service];
            if (row.hall == hall && row.isNear(day, start, end, HALL_GAP)) {
                return true;
            }
        }
        return false;
    }

    private boolean isInAnyService(int work) {
        for (int service = 0; service < plannedCount; service++) {
            if (planned[service].placeOf(work) != NONE) {
                return true;
            }
        }
        return false;
    }

    private int minutesOf(Service row) {
        int minutes = 0;
        for (int place = 0; place < row.workCount; place++) {
            minutes += works[row.works[place]].minutes;
        }
        return minutes;
    }

    private boolean seriesForbids(int service, int series, int itsWorks) {
        if (series == NONE) {
            return false;
        }
        for (int other = 0; other < plannedCount; other++) {
            Service row = planned[other];
            if (other != service && row.series == series && (row.allWorks() & itsWorks) != 0
                    && Math.abs(row.day - planned[service].day) < SERIES_DAYS) {
                return true;
            }
        }
        return false;
    }

    // ---- guests of services ----

    private int soloWorks(Service row) {
        int solo = 0;
        for (int place = 0; place < row.workCount; place++) {
            int work = row.works[place];
            if (works[work].needsSoloist) {
                solo |= 1 << work;
            }
        }
        return solo;
    }

    private boolean isEngagedBeside(int service, int guest) {
        for (int other = 0; other < plannedCount; other++) {
            Service row = planned[other];
            if (other != service && row.guest == guest && row.day == planned[service].day) {
                return true;
            }
        }
        return false;
    }

    private boolean canEngage(int service, int guest) {
        Service row = planned[service];
        Guest who = guests[guest];
        return (who.knows & soloWorks(row)) != 0 && !who.isElsewhereNear(row.day, WEEK)
                && !isEngagedBeside(service, guest);
    }

    private int findInstead(int service, int canceller) {
        int needed = soloWorks(planned[service]) & guests[canceller].knows;
        int found = NONE;
        for (int guest = 0; guest < guestCount; guest++) {
            if (guest != canceller && (guests[guest].knows & needed) == needed && canEngage(service, guest)
                    && (found == NONE || guests[guest].fee < guests[found].fee)) {
                found = guest;
            }
        }
        return found;
    }

    private boolean hasSoloistFor(Service row, int work) {
        return !works[work].needsSoloist || row.guest != NONE && hasBit(guests[row.guest].knows, work);
    }

    // ---- the agreement ----

    private int countServices(int player) {
        int count = 0;
        for (int service = 0; service < plannedCount; service++) {
            if (hasBit(planned[service].cast, player)) {
                count++;
            }
        }
        return count;
    }

    private boolean isCastBetween(int player, int from, int to) {
        for (int service = 0; service < plannedCount; service++) {
            Service row = planned[service];
            if (row.day >= from && row.day <= to && hasBit(row.cast, player)) {
                return true;
            }
        }
        return false;
    }

    private boolean isFreeFor(int player, int service) {
        return !players[player].isOnLeave(planned[service].day) && keepsAgreement(player, service);
    }

    /** Looks at the services for which a player is booked, together with one more, or NONE more. */
    private boolean keepsAgreement(int player, int more) {
        for (int service = 0; service < plannedCount; service++) {
            if (isAmong(service, player, more) && !fitsAmong(service, player, more)) {
                return false;
            }
        }
        return true;
    }

    private boolean isAmong(int service, int player, int more) {
        return service == more || hasBit(planned[service].cast, player);
    }

    private boolean fitsAmong(int service, int player, int more) {
        Service row = planned[service];
        int onDay = 0;
        int onWeek = 0;
        for (int other = 0; other < plannedCount; other++) {
            if (isAmong(other, player, more)) {
                Service next = planned[other];
                int later = next.day - row.day;
                onDay += later == 0 ? 1 : 0;
                onWeek += later >= 0 && later < WEEK ? 1 : 0;
                if (other != service && !row.leavesRestTo(next)) {
                    return false;
                }
            }
        }
        return onDay <= MOST_A_DAY && onWeek <= MOST_A_WEEK;
    }

    // ---- casts ----

    private void castAnew(int service) {
        Service row = planned[service];
        row.dropCasts();
        int able = 0;
        for (int player = 0; player < playerCount; player++) {
            // The service itself has no cast now, so that only the others are counted.
            casting.others[player] = countServices(player);
            if (!hasBit(row.absent, player) && isFreeFor(player, service)) {
                able |= 1 << player;
            }
        }
        for (int place = 0; place < row.workCount; place++) {
            int work = row.works[place];
            if (works[work].hasScoreOn(row.day) && hasSoloistFor(row, work)) {
                long cast = casting.find(works[work], players, able & ~refusers(work), row.cast);
                if (cast != Casting.NO_CAST) {
                    row.putCast(place, cast, works[work].partCount);
                }
            }
        }
    }

    private int refusers(int work) {
        int refusing = 0;
        for (int player = 0; player < playerCount; player++) {
            if (hasBit(players[player].refused, work)) {
                refusing |= 1 << player;
            }
        }
        return refusing;
    }

    private void leaveOut(Service row, int leftOut) {
        row.standing &= ~leftOut;
        row.cast = 0;
        for (int place = 0; place < row.workCount; place++) {
            row.cast |= playersIn(row, row.works[place]);
        }
    }

    private int playersIn(Service row, int work) {
        int place = row.placeOf(work);
        if (place == NONE || !hasBit(row.standing, work)) {
            return 0;
        }
        return Casting.playersOf(row.casts[place], works[work].partCount);
    }

    private void orderCalls(Service row) {
        callOrder.clear();
        for (int work = 0; work < workCount; work++) {
            if (hasBit(row.standing, work)) {
                callOrder.include(work, works[work].minutes, playersIn(row, work));
            }
        }
        callOrder.weigh();
    }

    // ---- costs ----

    private int costOf(Service row) {
        if (!row.isBooked) {
            return 0;
        }
        int sum = row.guest == NONE ? 0 : guests[row.guest].fee;
        for (int player = 0; player < playerCount; player++) {
            if (hasBit(row.cast, player)) {
                sum += players[player].wage;
            }
        }
        for (int place = 0; place < row.workCount; place++) {
            if (hasBit(row.standing, row.works[place])) {
                sum += DOUBLING_COST * countDoubled(works[row.works[place]], row.casts[place]);
            }
        }
        return sum;
    }

    private int countDoubled(Work work, long cast) {
        int doubled = 0;
        for (int part = 0; part < work.partCount; part++) {
            int player = Casting.playerOf(cast, part);
            if (player < playerCount && players[player].instrument != work.instrumentOf(part)) {
                doubled++;
            }
        }
        return doubled;
    }

    private int overtimeOf(Service row) {
        if (!row.isBooked || row.quarters <= QUARTERS_PAID_BY_WAGE) {
            return 0;
        }
        int aQuarter = 0;
        for (int player = 0; player < playerCount; player++) {
            if (hasBit(row.cast, player)) {
                aQuarter += players[player].wage / OVERTIME_SHARE;
            }
        }
        return aQuarter * (row.quarters - QUARTERS_PAID_BY_WAGE);
    }

    // ---- what must be so at any time ----

    private boolean areCastsSound() {
        for (int service = 0; service < plannedCount; service++) {
            Service row = planned[service];
            for (int place = 0; place < row.workCount; place++) {
                int work = row.works[place];
                if (hasBit(row.standing, work) && !isCastSound(works[work], row.casts[place])) {
                    return false;
                }
            }
        }
        return true;
    }

    private boolean isCastSound(Work work, long cast) {
        int used = 0;
        for (int part = 0; part < work.partCount; part++) {
            int player = Casting.playerOf(cast, part);
            if (player >= playerCount || !players[player].canPlay(work.instrumentOf(part)) || hasBit(used, player)) {
                return false;
            }
            used |= 1 << player;
        }
        return true;
    }

    private boolean isAgreementKept() {
        for (int player = 0; player < playerCount; player++) {
            if (!keepsAgreement(player, NONE)) {
                return false;
            }
        }
        return true;
    }

    private boolean areHallsSound() {
        for (int service = 0; service < plannedCount; service++) {
            Service row = planned[service];
            for (int other = 0; other < service; other++) {
                if (planned[other].hall == row.hall && planned[other].isNear(row.day, row.start, row.end, HALL_GAP)) {
                    return false;
                }
            }
        }
        return true;
    }

    private boolean areGuestsSound() {
        for (int service = 0; service < plannedCount; service++) {
            int guest = planned[service].guest;
            if (guest != NONE && isEngagedBeside(service, guest)) {
                return false;
            }
        }
        return true;
    }

    // ---- rows ----

    private static final class Work {
        private int minutes;
        private boolean isOwned;
        private boolean needsSoloist;
        private int partCount;
        private final int[] parts = new int[INSTRUMENTS];
        private int hireCount;
        private int hireCost;
        private final int[] hiredFrom = new int[MOST_HIRES];
        private final int[] hiredUntil = new int[MOST_HIRES];

        private void noteHire(int from, int until) {
            if (hireCount < MOST_HIRES) {
                hiredFrom[hireCount] = from;
                hiredUntil[hireCount] = until;
                hireCount++;
            }
        }

        private boolean hasScoreOn(int day) {
            for (int hired = 0; hired < hireCount; hired++) {
                if (day >= hiredFrom[hired] && day < hiredUntil[hired]) {
                    return true;
                }
            }
            return isOwned;
        }

        private int instrumentOf(int part) {
            int end = 0;
            for (int instrument = 0; instrument < INSTRUMENTS; instrument++) {
                end += parts[instrument];
                if (part < end) {
                    return instrument;
                }
            }
            return NONE;
        }
    }

    private static final class Player {
        private int instrument;
        private int doubles;
        private int wage;
        private int refused;
        private int leaveCount;
        private final int[] leaveFrom = new int[MOST_LEAVES];
        private final int[] leaveTo = new int[MOST_LEAVES];

        private void noteLeave(int from, int to) {
            if (leaveCount < MOST_LEAVES) {
                leaveFrom[leaveCount] = from;
                leaveTo[leaveCount] = to;
                leaveCount++;
            }
        }

        private boolean isOnLeave(int day) {
            for (int leave = 0; leave < leaveCount; leave++) {
                if (day >= leaveFrom[leave] && day <= leaveTo[leave]) {
                    return true;
                }
            }
            return false;
        }

        private boolean canPlay(int wanted) {
            return wanted == instrument || wanted >= 0 && hasBit(doubles, wanted);
        }
    }

    private static final class Hall {
        private static final int BITS = 32;

        private int from;
        private int to;
        private final int[] given = new int[LAST_DAY / BITS + 1];

        private boolean isGivenOn(int day) {
            return hasBit(given[day / BITS], day % BITS);
        }

        private void noteGiven(int day, boolean is) {
            int bit = 1 << day % BITS;
            int before = given[day / BITS];
            given[day / BITS] = is ? before | bit : before & ~bit;
        }
    }

    private static final class Guest {
        private int fee;
        private int knows;
        private int dayCount;
        private final int[] days = new int[MOST_DAYS_ELSEWHERE];

        private void noteElsewhere(int day) {
            if (dayCount < MOST_DAYS_ELSEWHERE) {
                days[dayCount] = day;
                dayCount++;
            }
        }

        /** Whether there is such a day less than so many days ahead of a day or behind it. */
        private boolean isElsewhereNear(int day, int lessThan) {
            for (int told = 0; told < dayCount; told++) {
                if (Math.abs(days[told] - day) < lessThan) {
                    return true;
                }
            }
            return false;
        }
    }

    private static final class Service {
        private char kind;
        private int day;
        private int start;
        private int end;
        private int hall;
        private int series = NONE;
        private int guest = NONE;
        private int workCount;
        private final int[] works = new int[MOST_WORKS_IN_SERVICE];
        private boolean isBooked;
        private int quarters;
        private int absent;
        /** The works that stand, none while the service is not booked. */
        private int standing;
        /** The players cast in a work that stands. */
        private int cast;
        /** At the place of each work that stands, who plays its parts, as Casting packs them. */
        private final long[] casts = new long[MOST_WORKS_IN_SERVICE];

        private int mostMinutes() {
            int minutes = (end - start) * QUARTER_MINUTES;
            return kind == CONCERT ? minutes - CONCERT_EXTRA_MINUTES : minutes;
        }

        private int placeOf(int work) {
            for (int place = 0; place < workCount; place++) {
                if (works[place] == work) {
                    return place;
                }
            }
            return NONE;
        }

        private int allWorks() {
            int all = 0;
            for (int place = 0; place < workCount; place++) {
                all |= 1 << works[place];
            }
            return all;
        }

        private void append(int work) {
            if (workCount < MOST_WORKS_IN_SERVICE) {
                works[workCount] = work;
                workCount++;
            }
        }

        private void takeOut(int place) {
            for (int next = place + 1; next < workCount; next++) {
                works[next - 1] = works[next];
            }
            workCount--;
        }

        /** Whether it is on that day, with fewer than so many quarters between it and the other one. */
        private boolean isNear(int otherDay, int otherStart, int otherEnd, int quartersBetween) {
            return day == otherDay && otherStart < end + quartersBetween && start < otherEnd + quartersBetween;
        }

        private boolean leavesRestTo(Service next) {
            if (next.day == day + 1) {
                return DAY_QUARTERS - end + next.start >= NIGHT_REST;
            }
            return !isNear(next.day, next.start, next.end, PLAYER_GAP);
        }

        private void dropCasts() {
            standing = 0;
            cast = 0;
        }

        private void putCast(int place, long itsCast, int partCount) {
            casts[place] = itsCast;
            standing |= 1 << works[place];
            cast |= Casting.playersOf(itsCast, partCount);
        }
    }

    /**
     * Finds the cast of a work. A cast is one long with four bits for each part's player, the first part's highest.
     *
     * A state counts how many parts of each instrument are filled. For each state the best way to fill it is kept,
     * as a key of which the lesser one is the better: the cost, below it the players' other services, below these
     * the cast. Such keys can be added up player by player. Players are offered in the order of their numbers, and
     * so fill the parts of one instrument in that order, which is the first one among those that are alike.
     */
    private static final class Casting {
        private static final long NO_CAST = 0x7fffffffffffffffL;
        /** Ten parts at most have no more states than with 2, 2, 2, 2, 1 and 1 of the instruments. */
        private static final int MOST_STATES = 3 * 3 * 3 * 3 * 2 * 2;
        private static final int PLAYER_BITS = 4;
        private static final int OTHERS_SHIFT = PLAYER_BITS * MOST_PARTS;
        private static final int COST_SHIFT = OTHERS_SHIFT + 9;
        private static final long CAST_MASK = (1L << OTHERS_SHIFT) - 1;
        private static final int COUNT_BITS = 3;

        private final int[] others = new int[MOST_PLAYERS];
        private final long[] ownKeys = new long[INSTRUMENTS];
        private final int[] stateSteps = new int[INSTRUMENTS];
        private final int[] firstParts = new int[INSTRUMENTS];
        private final int[] filledCounts = new int[MOST_STATES];
        private final long[] bestKeys = new long[MOST_STATES];
        private int stateCount;

        private static int shiftOf(int part) {
            return PLAYER_BITS * (MOST_PARTS - 1 - part);
        }

        private static int playerOf(long cast, int part) {
            return (int) (cast >> shiftOf(part)) & (1 << PLAYER_BITS) - 1;
        }

        private static int playersOf(long cast, int partCount) {
            int all = 0;
            for (int part = 0; part < partCount; part++) {
                all |= 1 << playerOf(cast, part);
            }
            return all;
        }

        /** Takes who is able and willing to play, and who is cast already and so costs no wage. */
        private long find(Work work, Player[] players, int able, int castAlready) {
            layOutStates(work);
            for (int player = 0; player < players.length; player++) {
                if (hasBit(able, player)) {
                    offer(players[player], player, hasBit(castAlready, player) ? 0 : players[player].wage);
                }
            }
            long best = bestKeys[stateCount - 1];
            return best == NO_CAST ? NO_CAST : best & CAST_MASK;
        }

        private void layOutStates(Work work) {
            stateCount = 1;
            filledCounts[0] = 0;
            int part = 0;
            for (int instrument = 0; instrument < INSTRUMENTS; instrument++) {
                stateSteps[instrument] = stateCount;
                firstParts[instrument] = part;
                part += work.parts[instrument];
                repeatStates(instrument, work.parts[instrument]);
            }
            bestKeys[0] = 0;
            for (int state = 1; state < stateCount; state++) {
                bestKeys[state] = NO_CAST;
            }
        }

        private void repeatStates(int instrument, int many) {
            int before = stateCount;
            for (int filled = 1; filled <= many; filled++) {
                for (int state = 0; state < before && stateCount < MOST_STATES; state++) {
                    filledCounts[stateCount] = filledCounts[state] | filled << COUNT_BITS * instrument;
                    stateCount++;
                }
            }
        }

        /** Lets a player fill one part or none: states fall, so that each is reached from one without the player. */
        private void offer(Player player, int number, int wage) {
            keepOwnKeys(player, number, wage);
            for (int state = stateCount - 1; state > 0; state--) {
                for (int instrument = 0; instrument < INSTRUMENTS; instrument++) {
                    int filled = filledCounts[state] >> COUNT_BITS * instrument & (1 << COUNT_BITS) - 1;
                    if (filled > 0 && ownKeys[instrument] != NO_CAST) {
                        int part = firstParts[instrument] + filled - 1;
                        long own = ownKeys[instrument] + ((long) number << shiftOf(part));
                        improve(state, state - stateSteps[instrument], own);
                    }
                }
            }
        }

        private void keepOwnKeys(Player player, int number, int wage) {
            for (int instrument = 0; instrument < INSTRUMENTS; instrument++) {
                int itsCost = instrument == player.instrument ? wage : wage + DOUBLING_COST;
                long key = ((long) itsCost << COST_SHIFT) + ((long) others[number] << OTHERS_SHIFT);
                ownKeys[instrument] = player.canPlay(instrument) ? key : NO_CAST;
            }
        }

        private void improve(int state, int before, long own) {
            if (before >= 0 && bestKeys[before] != NO_CAST) {
                bestKeys[state] = Math.min(bestKeys[state], bestKeys[before] + own);
            }
        }
    }

    /** Finds the order of a rehearsal's works: for each set of them, how little can be waited once these are played. */
    private static final class CallOrder {
        private static final int TOO_LONG = 1000000;

        private int count;
        private final int[] numbers = new int[MOST_WORKS_IN_SERVICE];
        private final int[] minutes = new int[MOST_WORKS_IN_SERVICE];
        private final int[] casts = new int[MOST_WORKS_IN_SERVICE];
        private final int[] leastWaiting = new int[1 << MOST_WORKS_IN_SERVICE];

        private void clear() {
            count = 0;
        }

        /** Works come in the order of their numbers. */
        private void include(int work, int itsMinutes, int itsPlayers) {
            if (count < MOST_WORKS_IN_SERVICE) {
                numbers[count] = work;
                minutes[count] = itsMinutes;
                casts[count] = itsPlayers;
                count++;
            }
        }

        private void weigh() {
            int all = (1 << count) - 1;
            leastWaiting[all] = 0;
            for (int played = all - 1; played >= 0; played--) {
                leastWaiting[played] = TOO_LONG;
                for (int next = 0; next < count; next++) {
                    if (!hasBit(played, next)) {
                        leastWaiting[played] = Math.min(leastWaiting[played], waitingFrom(played, next));
                    }
                }
            }
        }

        private int waitingFrom(int played, int next) {
            int came = 0;
            int stay = 0;
            for (int other = 0; other < count; other++) {
                if (hasBit(played, other)) {
                    came |= casts[other];
                } else if (other != next) {
                    stay |= casts[other];
                }
            }
            int waiting = came & stay & ~casts[next];
            return minutes[next] * Integer.bitCount(waiting) + leastWaiting[played | 1 << next];
        }

        private int workAt(int index) {
            int played = 0;
            int next = firstOfBest(played);
            for (int place = 0; place < index; place++) {
                played |= 1 << next;
                next = firstOfBest(played);
            }
            return numbers[next];
        }

        private int firstOfBest(int played) {
            int next = 0;
            while (next < count - 1 && (hasBit(played, next) || waitingFrom(played, next) != leastWaiting[played])) {
                next++;
            }
            return next;
        }
    }
}
