/** Promises 10 to 15, and what the terms say of halls, services and series. */
final class HallAndServiceTests extends Promises {
    HallAndServiceTests(Check check) {
        super(check);
    }

    @Override
    void run() {
        addHall();
        hallIsOpen();
        fourHalls();
        give();
        giveEachDay();
        giveWithService();
        giveRefused();
        kinds();
        serviceRange();
        hallIsNotOpen();
        othersHaveIt();
        quartersBetweenServices();
        quartersBetweenElsewhere();
        thirtyServices();
        add();
        addOfNone();
        addToBooked();
        sevenWorks();
        tooLong();
        tooLongOfManyWorks();
        remove();
        removeKeepsTheOrder();
        removeRefused();
        setSeries();
        setSeriesRefused();
        daysOfSeries();
        daysOfSeriesAtTheEndsOfTheYear();
        addInSeries();
        worksOfSeries();
    }

    // ---- 10 ----

    private void addHall() {
        says(10, "Adds a hall.", "from: 0 to 92", "to: from 4 later, to 96",
                "Throws IllegalArgumentException if a number is out of range");
        due("from -1", () -> book.addHall(-1, 50), ARGUMENT);
        due("from 93", () -> book.addHall(93, 96), ARGUMENT);
        due("from 93, to 97", () -> book.addHall(93, 97), ARGUMENT);
        due("3 later", () -> book.addHall(10, 13), ARGUMENT);
        due("as early as from", () -> book.addHall(10, 10), ARGUMENT);
        due("ahead of from", () -> book.addHall(60, 20), ARGUMENT);
        due("to 97", () -> book.addHall(10, 97), ARGUMENT);
        due("from far off", () -> book.addHall(MOST, LEAST), ARGUMENT);
        due("to far off", () -> book.addHall(0, MOST), ARGUMENT);
        due("to far below", () -> book.addHall(0, LEAST), ARGUMENT);
        due("from 92", () -> book.addHall(92, 96), 0);
        due("to 4", () -> book.addHall(0, 4), 1);
        due("the whole day", () -> book.addHall(0, 96), 2);
        due("4 later", () -> book.addHall(10, 14), 3);
    }

    private void hallIsOpen() {
        says(10, "from: 0 to 92", "to: from 4 later, to 96");
        alsoTerms("each open from a quarter up to another one;");
        book.addHall(92, 96);
        book.addHall(0, 4);
        book.addHall(10, 15);
        due("4 quarters at the end of a day", () -> book.addService('r', 5, 92, 4, 0), 0);
        due("from 91 on", () -> book.addService('r', 6, 91, 4, 0), UNSUPPORTED);
        due("4 quarters at its beginning", () -> book.addService('r', 5, 0, 4, 1), 1);
        due("from 1 on", () -> book.addService('r', 6, 1, 4, 1), UNSUPPORTED);
        due("5 quarters", () -> book.addService('r', 5, 10, 5, 2), 2);
        due("6 quarters", () -> book.addService('r', 6, 10, 6, 2), UNSUPPORTED);
    }

    private void fourHalls() {
        says(10, "Returns its number.", "Throws IllegalStateException if there are 4");
        alsoTerms("Halls. At most 4 are numbered from 0,");
        for (int number = 0; number < 4; number++) {
            int due = number;
            due("hall " + number, () -> book.addHall(20, 60), due);
        }
        due("a fifth", () -> book.addHall(0, 96), STATE);
        numbered("give hall", 4, hall -> book.give(hall, 0, true));
        due("the fourth as it was added", () -> book.addService('r', 5, 19, 4, 3), UNSUPPORTED);
    }

    // ---- 11 ----

    private void give() {
        says(11, "Gives a hall to others on a day, or takes it back.", "is: whether others have it then",
                "Returns whether they had it.");
        alsoTerms("others have it on some days.");
        halls(2);
        due("not at first", () -> book.give(0, 31, false), false);
        due("not before", () -> book.give(0, 31, true), false);
        due("before", () -> book.give(0, 31, true), true);
        due("not the day behind", () -> book.give(0, 32, false), false);
        due("not the day ahead", () -> book.give(0, 30, false), false);
        due("not the other hall", () -> book.give(1, 31, false), false);
        due("no service then", () -> book.addService('r', 31, 40, 4, 0), UNSUPPORTED);
        due("taken back", () -> book.give(0, 31, false), true);
        due("not any more", () -> book.give(0, 31, false), false);
        due("a service then", () -> book.addService('r', 31, 40, 4, 0), 0);
    }

    private void giveEachDay() {
        says(11, "day: the day");
        halls(1);
        for (int day = 0; day < 400; day++) {
            int told = day;
            due("each day is its own, " + day, () -> book.give(0, told, told % 3 != 1), false);
        }
        for (int day = 0; day < 400; day++) {
            int told = day;
            due("each day as was told, " + day, () -> book.give(0, told, false), told % 3 != 1);
        }
    }

    private void giveWithService() {
        says(11, "Throws UnsupportedOperationException if there is a service in it on that day");
        halls(2);
        service('r', 31, 0, 4, 0);
        service('c', 399, 92, 4, 0);
        due("given", () -> book.give(0, 31, true), UNSUPPORTED);
        due("taken back", () -> book.give(0, 31, false), UNSUPPORTED);
        due("on the last day of all", () -> book.give(0, 399, true), UNSUPPORTED);
        due("the day ahead", () -> book.give(0, 30, true), false);
        due("the day behind", () -> book.give(0, 32, true), false);
        due("the other hall", () -> book.give(1, 31, true), false);
    }

    private void giveRefused() {
        says(11, "hall: the hall", "day: the day", "Throws IndexOutOfBoundsException if there is no such hall",
                "Throws IllegalArgumentException if a number is out of range");
        due("the first of none", () -> book.give(0, 0, true), INDEX);
        halls(2);
        range("day", 0, 399, day -> book.give(1, day, true));
        numbered("hall", 2, hall -> book.give(hall, 0, true));
    }

    // ---- 12 ----

    private void kinds() {
        says(12, "Adds a service.", "kind: the kind", "Throws IllegalArgumentException if there is no such kind,");
        alsoTerms("each of a kind, 'r' a rehearsal, 'c' a concert, 's' a session,");
        halls(1);
        char[] none = {'q', 't', 'b', 'd', 'R', 'C', 'S', 0, ' ', (char) ('r' + 256), Character.MAX_VALUE};
        for (char kind : none) {
            due("kind " + (int) kind, () -> book.addService(kind, 5, 40, 4, 0), ARGUMENT);
        }
        players(10);
        work(10, 1);
        booked('r', 10, 40, 4, 0, 0);
        booked('c', 20, 40, 4, 0, 0);
        booked('s', 30, 40, 4, 0, 0);
        due("one is a rehearsal", () -> book.rehearsed(0), 10);
        due("it has calls", () -> book.callAt(0, 0), 0);
        due("one is a concert", () -> book.lastPlayed(0), 20);
        due("it can be in a series", () -> book.setSeries(1, 0), -1);
        due("a session has no calls", () -> book.callAt(2, 0), UNSUPPORTED);
        due("and is in no series", () -> book.setSeries(2, 0), UNSUPPORTED);
    }

    private void serviceRange() {
        says(12, "day: the day", "start: the first quarter", "length: 4 to 16 quarters",
                "Throws IllegalArgumentException", "or a number is out of range", "hall: the hall",
                "Throws IndexOutOfBoundsException if there is no such hall");
        alsoTerms("on a day, from a quarter on, for 4 to 16 quarters, in a hall,");
        due("in the first hall of none", () -> book.addService('r', 0, 0, 4, 0), INDEX);
        halls(2);
        range("day", 0, 399, day -> book.addService('r', day, 40, 4, 0));
        range("length", 4, 16, length -> book.addService('r', 10 * length, 40, length, 0));
        due("start -1", () -> book.addService('r', 5, -1, 4, 0), ARGUMENT);
        due("start 96", () -> book.addService('r', 5, 96, 4, 0), ARGUMENT);
        due("start far off", () -> book.addService('r', 5, MOST, 16, 0), ARGUMENT);
        due("start far below", () -> book.addService('r', 5, LEAST, 16, 0), ARGUMENT);
        due("start 0", () -> book.addService('r', 5, 0, 4, 0), 4);
        due("start 92", () -> book.addService('r', 5, 92, 4, 0), 5);
        numbered("hall", 2, hall -> book.addService('r', 300, 40, 4, hall));
    }

    private void hallIsNotOpen() {
        says(12, "Throws UnsupportedOperationException if the hall is not open for all of it,");
        alsoTerms("The hall must be open for all of it,");
        book.addHall(20, 60);
        due("it opens a quarter later", () -> book.addService('r', 0, 19, 4, 0), UNSUPPORTED);
        due("it opens 3 quarters later", () -> book.addService('r', 0, 17, 16, 0), UNSUPPORTED);
        due("it opens as it ends", () -> book.addService('r', 0, 16, 4, 0), UNSUPPORTED);
        due("it closes a quarter earlier", () -> book.addService('s', 0, 57, 4, 0), UNSUPPORTED);
        due("it closes as it begins", () -> book.addService('s', 0, 60, 4, 0), UNSUPPORTED);
        due("the last quarter of a day", () -> book.addService('s', 0, 95, 16, 0), UNSUPPORTED);
        due("as it opens", () -> book.addService('r', 0, 20, 16, 0), 0);
        due("until it closes", () -> book.addService('s', 0, 44, 16, 0), 1);
    }

    private void othersHaveIt() {
        says(12, "others have it,");
        alsoTerms("and nobody else have it;");
        halls(2);
        book.give(0, 0, true);
        book.give(0, 399, true);
        book.give(1, 200, true);
        due("on day 0", () -> book.addService('r', 0, 40, 4, 0), UNSUPPORTED);
        due("on day 399", () -> book.addService('r', 399, 40, 4, 0), UNSUPPORTED);
        due("on day 1", () -> book.addService('r', 1, 40, 4, 0), 0);
        due("on day 398", () -> book.addService('r', 398, 40, 4, 0), 1);
        due("in the other hall on day 0", () -> book.addService('r', 0, 40, 4, 1), 2);
        due("in the other hall on its day", () -> book.addService('r', 200, 40, 4, 1), UNSUPPORTED);
    }

    private void quartersBetweenServices() {
        says(12, "or another service is too near");
        alsoTerms("between two services in a hall on one day there are 4 quarters at least.");
        halls(1);
        service('r', 5, 40, 8, 0);
        due("3 quarters behind it", () -> book.addService('r', 5, 51, 4, 0), UNSUPPORTED);
        due("none behind it", () -> book.addService('r', 5, 48, 4, 0), UNSUPPORTED);
        due("3 quarters ahead of it", () -> book.addService('r', 5, 33, 4, 0), UNSUPPORTED);
        due("none ahead of it", () -> book.addService('r', 5, 36, 4, 0), UNSUPPORTED);
        due("at the same time", () -> book.addService('r', 5, 40, 8, 0), UNSUPPORTED);
        due("within it", () -> book.addService('r', 5, 42, 4, 0), UNSUPPORTED);
        due("around it", () -> book.addService('r', 5, 36, 16, 0), UNSUPPORTED);
        due("4 quarters behind it", () -> book.addService('c', 5, 52, 16, 0), 1);
        due("4 quarters ahead of it", () -> book.addService('s', 5, 20, 16, 0), 2);
        service('r', 5, 80, 4, 0);
        due("between two, too long", () -> book.addService('r', 5, 72, 5, 0), UNSUPPORTED);
        due("between two, too early", () -> book.addService('r', 5, 71, 4, 0), UNSUPPORTED);
        due("between two", () -> book.addService('r', 5, 72, 4, 0), 4);
    }

    private void quartersBetweenElsewhere() {
        terms("between two services in a hall on one day");
        halls(2);
        service('r', 5, 40, 8, 0);
        due("in another hall", () -> book.addService('r', 5, 40, 8, 1), 1);
        due("on the next day", () -> book.addService('r', 6, 40, 8, 0), 2);
        due("on the day ahead", () -> book.addService('r', 4, 40, 8, 0), 3);
        service('r', 10, 92, 4, 0);
        due("over night there need be none", () -> book.addService('r', 11, 0, 4, 0), 5);
    }

    private void thirtyServices() {
        says(12, "Returns its number.", "Throws IllegalStateException if there are 30");
        alsoTerms("Services. At most 30 are numbered from 0,");
        halls(1);
        for (int number = 0; number < 30; number++) {
            int due = number;
            due("service " + number, () -> book.addService('c', 5 * due, 40, 4, 0), due);
        }
        due("a thirty-first", () -> book.addService('c', 300, 40, 4, 0), STATE);
        numbered("isBooked of service", 30, service -> book.isBooked(service));
        due("the hall stays free for others", () -> book.give(0, 300, true), false);
        due("the thirtieth has it", () -> book.give(0, 145, true), UNSUPPORTED);
    }

    // ---- 13 ----

    private void add() {
        says(13, "Adds a work to a service.", "Returns how many it has.");
        halls(1);
        work(10);
        work(10);
        concert(5);
        concert(6);
        due("a first", () -> book.add(0, 1), 1);
        due("a second", () -> book.add(0, 0), 2);
        due("a first to another one", () -> book.add(1, 0), 1);
        book.book(0);
        due("both are in it", () -> book.stands(0, 0) && book.stands(0, 1), true);
    }

    private void addOfNone() {
        says(13, "service: the service", "work: the work",
                "Throws IndexOutOfBoundsException if there is no such service or work");
        due("the first of none", () -> book.add(0, 0), INDEX);
        halls(1);
        concert(5);
        due("a service, but no work", () -> book.add(0, 0), INDEX);
        book = new Seasonbook();
        work(10);
        due("a work, but no service", () -> book.add(0, 0), INDEX);
        book = new Seasonbook();
        two();
        work(10);
        numbered("service", 2, service -> book.add(service, 2));
        numbered("work", 3, work -> book.add(0, work));
    }

    private void addToBooked() {
        says(13, "Throws UnsupportedOperationException if it is booked,");
        two();
        work(10);
        book.book(0);
        due("booked", () -> book.add(0, 2), UNSUPPORTED);
        book.away(0, 0);
        book.away(0, 1);
        due("booked without any work that stands", () -> book.add(0, 2), UNSUPPORTED);
        book.unbook(0);
        due("booked no more", () -> book.add(0, 2), 3);
    }

    private void sevenWorks() {
        says(13, "has it or 6,");
        alsoTerms("with at most 6 works in an order.");
        halls(1);
        for (int work = 0; work < 8; work++) {
            work(10);
        }
        concert(5, 7);
        due("it has it", () -> book.add(0, 7), UNSUPPORTED);
        for (int work = 1; work < 5; work++) {
            int added = work;
            due("work " + work, () -> book.add(0, added), added + 1);
        }
        due("it has five, this one too", () -> book.add(0, 4), UNSUPPORTED);
        due("a sixth", () -> book.add(0, 0), 6);
        due("a seventh", () -> book.add(0, 6), UNSUPPORTED);
        due("one that it has", () -> book.add(0, 0), UNSUPPORTED);
        book.remove(0, 7);
        due("one that it had", () -> book.add(0, 7), 6);
        due("none further", () -> book.add(0, 6), UNSUPPORTED);
    }

    private void tooLong() {
        says(13, "would be too long,");
        alsoTerms("In a concert all works together, and 20 minutes, are not longer than it,",
                "in a rehearsal and a session they are not longer.");
        halls(1);
        for (int minutes : new int[] {40, 41, 60, 61, 90}) {
            work(minutes);
        }
        service('c', 1, 40, 4, 0);
        service('r', 2, 40, 4, 0);
        service('s', 3, 40, 4, 0);
        due("41 and 20 minutes of 60 in a concert", () -> book.add(0, 1), UNSUPPORTED);
        due("40 and 20 minutes of 60 in a concert", () -> book.add(0, 0), 1);
        due("61 minutes of 60 in a rehearsal", () -> book.add(1, 3), UNSUPPORTED);
        due("60 minutes of 60 in a rehearsal", () -> book.add(1, 2), 1);
        due("61 minutes of 60 in a session", () -> book.add(2, 3), UNSUPPORTED);
        due("60 minutes of 60 in a session", () -> book.add(2, 2), 1);
        service('c', 4, 40, 7, 0);
        due("90 and 20 minutes of 105", () -> book.add(3, 4), UNSUPPORTED);
        service('c', 5, 40, 8, 0);
        due("90 and 20 minutes of 120", () -> book.add(4, 4), 1);
        service('r', 6, 40, 5, 0);
        due("90 minutes of 75", () -> book.add(5, 4), UNSUPPORTED);
        service('s', 7, 40, 6, 0);
        due("90 minutes of 90", () -> book.add(6, 4), 1);
    }

    private void tooLongOfManyWorks() {
        terms("In a concert all works together, and 20 minutes,");
        halls(1);
        for (int minutes : new int[] {90, 90, 40, 1, 21, 20}) {
            work(minutes);
        }
        service('c', 1, 40, 16, 0, 0, 1, 2);
        due("221 and 20 minutes of 240", () -> book.add(0, 3), UNSUPPORTED);
        book.remove(0, 2);
        due("39 less", () -> book.add(0, 3), 3);
        due("201 and 20 minutes, once for all works", () -> book.add(0, 5), 4);
        service('r', 2, 40, 16, 0, 0, 1, 2);
        due("241 minutes of 240", () -> book.add(1, 4), UNSUPPORTED);
        due("240 minutes of 240", () -> book.add(1, 5), 4);
        due("241 minutes of 240 again", () -> book.add(1, 3), UNSUPPORTED);
    }

    // ---- 14 ----

    private void remove() {
        says(14, "Takes a work out of a service.", "Returns how many are left.");
        halls(1);
        for (int work = 0; work < 6; work++) {
            work(10);
        }
        concert(5, 0, 1, 2, 3, 4, 5);
        concert(6, 0);
        due("the first of six", () -> book.remove(0, 0), 5);
        due("the last of five", () -> book.remove(0, 5), 4);
        due("one between", () -> book.remove(0, 2), 3);
        book.book(0);
        due("what is left stands", () -> book.stands(0, 1) && book.stands(0, 3) && book.stands(0, 4), true);
        due("what was taken out does not", () -> book.stands(0, 0) || book.stands(0, 2) || book.stands(0, 5), false);
        due("the only one of another service", () -> book.remove(1, 0), 0);
        due("none is left to be booked", () -> book.book(1), UNSUPPORTED);
        due("a service can have it again", () -> book.add(1, 0), 1);
    }

    private void removeKeepsTheOrder() {
        says(14, "Takes a work out of a service.");
        alsoTerms("works in an order.");
        halls(1);
        book.addPlayer(0, 2, 50);
        book.addPlayer(1, 1, 45);
        work(10, 1);
        work(10, 0, 1);
        work(10);
        service('r', 5, 40, 8, 0, 2, 0, 1);
        book.remove(0, 2);
        book.book(0);
        due("the first work's player plays the own part", () -> book.castAt(0, 0, 0), 0);
        book.unbook(0);
        book.remove(0, 0);
        book.add(0, 0);
        book.book(0);
        due("added again it is the last", () -> book.castAt(0, 0, 0), 1);
    }

    private void removeRefused() {
        says(14, "service: the service", "work: the work",
                "Throws IndexOutOfBoundsException if there is no such service or work",
                "Throws UnsupportedOperationException if it is booked, or has it not");
        due("the first of none", () -> book.remove(0, 0), INDEX);
        two();
        work(10);
        due("it has it not", () -> book.remove(0, 2), UNSUPPORTED);
        book.book(0);
        due("booked", () -> book.remove(0, 0), UNSUPPORTED);
        due("booked, and left out", () -> book.remove(0, 1), UNSUPPORTED);
        due("booked, and has it not", () -> book.remove(0, 2), UNSUPPORTED);
        book.unbook(0);
        due("booked no more", () -> book.remove(0, 0), 1);
        due("it has it no more", () -> book.remove(0, 0), UNSUPPORTED);
        numbered("service", 2, service -> book.remove(service, 0));
        numbered("work", 3, work -> book.remove(1, work));
    }

    // ---- 15 ----

    private void setSeries() {
        says(15, "Puts a concert into a series.", "series: 0 to 3, or -1 for none", "Returns the one before, -1 for none.",
                "Throws IllegalArgumentException if a number is out of range");
        alsoTerms("A concert can be of a series, 0 to 3:");
        halls(1);
        work(10);
        concert(5, 0);
        range("series", -1, 3, series -> book.setSeries(0, series));
        due("3 before", () -> book.setSeries(0, 3), 3);
        due("3 again", () -> book.setSeries(0, -1), 3);
        due("none before", () -> book.setSeries(0, -1), -1);
        due("none again", () -> book.setSeries(0, 0), -1);
        due("0 before", () -> book.setSeries(0, 1), 0);
        book.book(0);
        due("a booked one", () -> book.setSeries(0, 2), 1);
        due("it stays booked", () -> book.isBooked(0), true);
    }

    private void setSeriesRefused() {
        says(15, "service: the service", "Throws IndexOutOfBoundsException if there is no such service",
                "Throws UnsupportedOperationException if it is no concert,");
        due("the first of none", () -> book.setSeries(0, 0), INDEX);
        two();
        service('s', 30, 40, 4, 0);
        due("a rehearsal", () -> book.setSeries(1, 0), UNSUPPORTED);
        due("a session", () -> book.setSeries(2, 3), UNSUPPORTED);
        due("a rehearsal, none", () -> book.setSeries(1, -1), UNSUPPORTED);
        numbered("service", 3, service -> book.setSeries(service, 0));
    }

    private void daysOfSeries() {
        says(15, "or the series forbids it");
        alsoTerms("a work is not twice in concerts of a series, booked or not, that are less than 100 days apart.");
        halls(1);
        work(10);
        work(10);
        concert(150, 0, 1);
        concert(249, 1);
        concert(250, 1);
        concert(51, 0);
        concert(50, 0);
        book.setSeries(0, 2);
        due("99 days behind", () -> book.setSeries(1, 2), UNSUPPORTED);
        due("100 days behind", () -> book.setSeries(2, 2), -1);
        due("99 days ahead", () -> book.setSeries(3, 2), UNSUPPORTED);
        due("100 days ahead", () -> book.setSeries(4, 2), -1);
        service('c', 150, 70, 10, 0, 1);
        due("on the same day", () -> book.setSeries(5, 2), UNSUPPORTED);
        due("in another series", () -> book.setSeries(5, 3), -1);
        due("in none", () -> book.setSeries(3, -1), -1);
        book.book(0);
        due("near one that is booked", () -> book.setSeries(3, 2), UNSUPPORTED);
        book.book(3);
        due("booked, near one that is booked", () -> book.setSeries(3, 2), UNSUPPORTED);
        book.setSeries(0, -1);
        due("that is in the series no more, near another one", () -> book.setSeries(3, 2), UNSUPPORTED);
        book.setSeries(4, 0);
        due("near none of the series", () -> book.setSeries(3, 2), -1);
    }

    private void daysOfSeriesAtTheEndsOfTheYear() {
        terms("that are less than 100 days apart.");
        halls(1);
        work(10);
        for (int day : new int[] {0, 99, 100, 299, 300, 399}) {
            concert(day, 0);
        }
        book.setSeries(0, 0);
        book.setSeries(5, 0);
        due("99 days behind day 0", () -> book.setSeries(1, 0), UNSUPPORTED);
        due("100 days behind day 0", () -> book.setSeries(2, 0), -1);
        due("99 days ahead of day 399", () -> book.setSeries(4, 0), UNSUPPORTED);
        due("100 days ahead of day 399", () -> book.setSeries(3, 0), -1);
    }

    private void addInSeries() {
        says(13, "or the series forbids it");
        halls(1);
        work(10);
        work(10);
        concert(150, 0);
        book.setSeries(0, 0);
        for (int day : new int[] {50, 51, 249, 250}) {
            book.setSeries(concert(day), 0);
        }
        due("100 days ahead", () -> book.add(1, 0), 1);
        due("99 days ahead", () -> book.add(2, 0), UNSUPPORTED);
        due("99 days behind", () -> book.add(3, 0), UNSUPPORTED);
        due("100 days behind", () -> book.add(4, 0), 1);
        due("another work", () -> book.add(2, 1), 1);
        due("the other one's work", () -> book.add(0, 1), UNSUPPORTED);
        book.setSeries(2, -1);
        due("in no series", () -> book.add(2, 0), 2);
        due("so not in the series again", () -> book.setSeries(2, 0), UNSUPPORTED);
        due("in another series", () -> book.setSeries(2, 1), -1);
        service('r', 151, 40, 8, 0);
        due("in a rehearsal", () -> book.add(5, 0), 1);
    }

    private void worksOfSeries() {
        says(15, "or the series forbids it");
        halls(1);
        work(10);
        work(10);
        work(10);
        concert(10, 0, 2);
        concert(20, 1);
        concert(30);
        concert(40, 1, 2);
        book.setSeries(0, 1);
        due("other works", () -> book.setSeries(1, 1), -1);
        due("no works", () -> book.setSeries(2, 1), -1);
        due("a work of each", () -> book.setSeries(3, 1), UNSUPPORTED);
        book.remove(3, 2);
        due("a work of one", () -> book.setSeries(3, 1), UNSUPPORTED);
        book.remove(1, 1);
        due("taken out of that one", () -> book.setSeries(3, 1), -1);
        due("and into it again", () -> book.add(1, 1), UNSUPPORTED);
    }
}
