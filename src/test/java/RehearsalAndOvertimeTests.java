/** Promises 30 to 33, and what the terms say of calls and overtime. */
final class RehearsalAndOvertimeTests extends Promises {
    private static final String WAIT = "a player waits while works are played from the first to the last one in which the "
            + "player is cast, in those in which not;";
    private static final String OVERTIME = "Overtime. When a booked service runs longer than 10 quarters, each further one "
            + "costs, for each player cast, a tenth of the wage, cut.";

    RehearsalAndOvertimeTests(Check check) {
        super(check);
    }

    @Override
    void run() {
        callAt();
        callAtWhatStands();
        callAtRefused();
        callAtNoRehearsal();
        callAtSixWorks();
        waitingInTheMiddle();
        waitingFromFirstToLast();
        minutesOfAllPlayers();
        firstOfLikeOrders();
        waitingRefused();
        ranRange();
        ranRefused();
        ranLonger();
        overtime();
        overtimeIsCut();
        overtimeOfPlayersCast();
        runsAsPlanned();
        overtimeRefused();
    }

    /** One player for each instrument, so that who is cast in a work is what its parts are. */
    private void onePlayerEach(int instruments) {
        halls(1);
        for (int instrument = 0; instrument < instruments; instrument++) {
            book.addPlayer(instrument, 0, 10);
        }
    }

    private void dueOrder(int service, int... works) {
        for (int index = 0; index < works.length; index++) {
            int looked = index;
            due("call " + index, () -> book.callAt(service, looked), works[index]);
        }
        due("a call behind the last one", () -> book.callAt(service, works.length), NO_ELEMENT);
    }

    // ---- 30 ----

    private void callAt() {
        says(30, "Returns a work in the order in which works are called.", "index: the index, from 0", "Returns the work.");
        alsoTerms("are called in the order in which players wait least:");
        onePlayerEach(2);
        work(10, 1);
        work(20, 0, 1);
        work(30, 1);
        bookedRehearsal(5, 2, 1, 0);
        dueOrder(0, 0, 2, 1);
        due("nobody waits", () -> book.waiting(0), 0);
    }

    private void callAtWhatStands() {
        terms("Calls. In a rehearsal that is booked its works that stand are called");
        onePlayerEach(2);
        work(10, 1);
        work(20, 0, 1);
        work(30, 1);
        work(5, 0, 0, 1);
        soloWork(5);
        bookedRehearsal(5, 4, 2, 3, 1, 0);
        dueOrder(0, 0, 2, 1);
        book.away(0, 0);
        dueOrder(0, 1);
        book.away(0, 1);
        dueOrder(0);
        due("nobody waits", () -> book.waiting(0), 0);
        book.unbook(0);
        book.book(0);
        dueOrder(0, 0, 2, 1);
    }

    private void callAtRefused() {
        says(30, "service: the service", "Throws IndexOutOfBoundsException if there is no such service",
                "Throws NoSuchElementException if there is none");
        due("the first of none", () -> book.callAt(0, 0), INDEX);
        two();
        book.book(1);
        due("the only one", () -> book.callAt(1, 0), 0);
        due("index -1", () -> book.callAt(1, -1), NO_ELEMENT);
        due("index 1", () -> book.callAt(1, 1), NO_ELEMENT);
        due("far off", () -> book.callAt(1, MOST), NO_ELEMENT);
        due("far below", () -> book.callAt(1, LEAST), NO_ELEMENT);
        numbered("service", 2, service -> book.callAt(service, 0));
        book.away(1, 0);
        book.away(1, 1);
        due("none stands", () -> book.callAt(1, 0), NO_ELEMENT);
    }

    private void callAtNoRehearsal() {
        says(30, "Throws UnsupportedOperationException if it is no rehearsal that is booked");
        two();
        booked('s', 30, 40, 16, 0, 0);
        due("a rehearsal that is not booked", () -> book.callAt(1, 0), UNSUPPORTED);
        due("a session that is booked", () -> book.callAt(2, 0), UNSUPPORTED);
        due("a concert that is not booked", () -> book.callAt(0, 0), UNSUPPORTED);
        book.book(0);
        due("a concert that is booked", () -> book.callAt(0, 0), UNSUPPORTED);
        book.book(1);
        due("a rehearsal that is booked", () -> book.callAt(1, 0), 0);
        book.unbook(1);
        due("booked no more", () -> book.callAt(1, 0), UNSUPPORTED);
    }

    private void callAtSixWorks() {
        says(30, "index: the index, from 0");
        onePlayerEach(1);
        for (int work = 0; work < 6; work++) {
            work(10, 1);
        }
        bookedRehearsal(5, 5, 4, 3, 2, 1, 0);
        dueOrder(0, 0, 1, 2, 3, 4, 5);
        due("nobody waits who plays all the time", () -> book.waiting(0), 0);
    }

    // ---- 31 ----

    private void waitingInTheMiddle() {
        says(31, "Returns how long players wait in that order.", "Returns the minutes of all players.");
        alsoTerms("in the order in which players wait least:", WAIT);
        onePlayerEach(3);
        work(10, 1, 1);
        work(20, 0, 1, 1);
        work(30, 1, 0, 1);
        bookedRehearsal(5, 0, 1, 2);
        due("one waits in the shortest", () -> book.waiting(0), 10);
        dueOrder(0, 1, 0, 2);
        book.away(0, 0);
        due("one work left", () -> book.waiting(0), 0);
        book.away(0, 1);
        due("none left", () -> book.waiting(0), 0);
    }

    private void waitingFromFirstToLast() {
        terms(WAIT);
        onePlayerEach(4);
        work(7, 1, 1, 1);
        work(11, 1, 0, 0, 1);
        work(13, 0, 1, 0, 1);
        work(17, 0, 0, 1, 1);
        bookedRehearsal(5, 0, 1, 2, 3);
        due("nobody waits ahead of the first or behind the last", () -> book.waiting(0), 11 + 7);
        dueOrder(0, 2, 0, 1, 3);
    }

    private void minutesOfAllPlayers() {
        terms("minutes of all players are summed;");
        onePlayerEach(6);
        work(9, 1, 1, 1);
        work(8, 1, 0, 0, 1, 1);
        work(7, 0, 1, 0, 1, 0, 1);
        work(6, 0, 0, 1, 0, 1, 1);
        work(5, 1, 0, 0, 0, 0, 1);
        work(4, 0, 1, 0, 0, 1);
        bookedRehearsal(5, 0, 1, 2, 3, 4, 5);
        due("the least of 720 orders", () -> book.waiting(0), 42);
        dueOrder(0, 0, 3, 5, 2, 1, 4);
        bookedRehearsal(15, 5, 4, 3, 2, 1, 0);
        due("in whatever order they were added", () -> book.waiting(1), 42);
        dueOrder(1, 0, 3, 5, 2, 1, 4);
    }

    private void firstOfLikeOrders() {
        terms("of like ones the order that is first, by works' numbers, place by place.");
        onePlayerEach(2);
        work(7, 1, 1);
        work(7, 0, 1);
        work(7, 1);
        work(7);
        work(7, 1, 1);
        work(7);
        bookedRehearsal(5, 3, 2, 1, 0);
        due("nobody waits", () -> book.waiting(0), 0);
        dueOrder(0, 1, 0, 2, 3);
        bookedRehearsal(15, 4, 0, 1);
        due("nobody waits here either", () -> book.waiting(1), 0);
        dueOrder(1, 0, 4, 1);
        bookedRehearsal(25, 5, 3);
        dueOrder(2, 3, 5);
        bookedRehearsal(35, 5, 4, 2, 0);
        dueOrder(3, 0, 4, 2, 5);
    }

    private void waitingRefused() {
        says(31, "service: the service", "Throws IndexOutOfBoundsException if there is no such service",
                "Throws UnsupportedOperationException if it is no rehearsal that is booked");
        due("the first of none", () -> book.waiting(0), INDEX);
        two();
        booked('s', 30, 40, 16, 0, 0);
        due("a rehearsal that is not booked", () -> book.waiting(1), UNSUPPORTED);
        due("a session that is booked", () -> book.waiting(2), UNSUPPORTED);
        due("a concert that is not booked", () -> book.waiting(0), UNSUPPORTED);
        book.book(0);
        due("a concert that is booked", () -> book.waiting(0), UNSUPPORTED);
        book.book(1);
        due("a rehearsal that is booked", () -> book.waiting(1), 0);
        numbered("service", 3, service -> book.waiting(service));
        book.unbook(1);
        due("booked no more", () -> book.waiting(1), UNSUPPORTED);
    }

    // ---- 32 ----

    private void ranRange() {
        says(32, "Tells how long a service ran.", "quarters: 4 to 32", "Returns what overtime costs.",
                "Throws IllegalArgumentException if a number is out of range");
        halls(1);
        players(19);
        bookedConcert(5, work(10, 1));
        range("quarters", 4, 32, quarters -> book.ran(0, quarters));
        due("32 quarters", () -> book.overtime(0), 22);
        due("4 quarters", () -> book.ran(0, 4), 0);
        due("10 quarters", () -> book.ran(0, 10), 0);
        due("11 quarters", () -> book.ran(0, 11), 1);
        due("told anew", () -> book.ran(0, 32), 22);
        due("and shorter", () -> book.ran(0, 12), 2);
    }

    private void ranRefused() {
        says(32, "service: the service", "Throws IndexOutOfBoundsException if there is no such service",
                "Throws UnsupportedOperationException if it is not booked");
        due("the first of none", () -> book.ran(0, 4), INDEX);
        two();
        due("not booked", () -> book.ran(0, 4), UNSUPPORTED);
        book.book(0);
        due("another one is booked", () -> book.ran(1, 32), UNSUPPORTED);
        book.ran(0, 20);
        book.unbook(0);
        due("booked no more", () -> book.ran(0, 20), UNSUPPORTED);
        book.book(0);
        book.book(1);
        numbered("service", 2, service -> book.ran(service, 4));
    }

    private void ranLonger() {
        says(32, "Tells how long a service ran.");
        two();
        book.book(0);
        book.book(1);
        book.ran(0, 32);
        due("one ran longer", () -> book.overtime(0), 22);
        due("the other one as planned", () -> book.overtime(1), 6);
        due("its cost is the same", () -> book.cost(0), 10);
        due("all costs are more", () -> book.total(), 10 + 10 + 22 + 6);
    }

    // ---- 33 ----

    private void overtime() {
        says(33, "Returns what overtime of a service costs by now.", "Returns the cost, 0 if it is not booked.");
        alsoTerms(OVERTIME);
        halls(1);
        players(100, 350);
        work(10, 1);
        service('r', 5, 40, 12, 0, 0);
        due("not booked", () -> book.overtime(0), 0);
        book.book(0);
        due("as planned", () -> book.overtime(0), 20);
        book.ran(0, 10);
        due("10 quarters", () -> book.overtime(0), 0);
        book.ran(0, 11);
        due("11 quarters", () -> book.overtime(0), 10);
        book.ran(0, 13);
        due("13 quarters", () -> book.overtime(0), 30);
        book.away(0, 0);
        due("of those who are cast by now", () -> book.overtime(0), 105);
        book.away(0, 1);
        due("of nobody", () -> book.overtime(0), 0);
        book.unbook(0);
        due("no more booked", () -> book.overtime(0), 0);
    }

    private void overtimeIsCut() {
        terms("a tenth of the wage, cut.");
        halls(1);
        players(9, 10, 19, 999);
        work(10, 4);
        bookedConcert(5, 0);
        due("each wage is cut for itself", () -> book.ran(0, 11), 0 + 1 + 1 + 99);
        due("for each quarter", () -> book.ran(0, 32), 22 * 101);
        book.away(0, 3);
        due("nothing without a cast", () -> book.overtime(0), 0);
    }

    private void overtimeOfPlayersCast() {
        terms("for each player cast,");
        halls(1);
        book.addPlayer(0, 2, 100);
        book.addPlayer(0, 0, 500);
        book.addGuest(5000, 4);
        work(10, 1);
        work(10, 0, 1);
        soloWork(10, 2);
        concert(5, 0, 1, 2);
        book.book(0);
        due("once for two works, without a doubling's 10", () -> book.ran(0, 11), 10);
        book.unbook(0);
        book.engage(0, 0);
        book.book(0);
        due("both, without the guest's fee", () -> book.ran(0, 11), 60);
        book.cancelGuest(0);
        due("not who is cast in what is left out", () -> book.overtime(0), 10);
    }

    private void runsAsPlanned() {
        terms("A service runs as long as was planned unless something is told.");
        halls(1);
        players(100);
        work(10, 1);
        int[] lengths = {4, 10, 11, 16};
        int[] due = {0, 0, 10, 60};
        for (int service = 0; service < 4; service++) {
            int looked = service;
            booked('c', 10 * service, 40, lengths[service], 0, 0);
            due(lengths[service] + " quarters", () -> book.overtime(looked), due[looked]);
        }
        due("told as shorter", () -> book.ran(3, 4), 0);
        book.away(3, 0);
        due("told stays told", () -> book.overtime(3), 0);
    }

    private void overtimeRefused() {
        says(33, "service: the service", "Throws IndexOutOfBoundsException if there is no such service");
        due("the first of none", () -> book.overtime(0), INDEX);
        two();
        numbered("service", 2, service -> book.overtime(service));
    }
}
