/** Promises 1 to 6, and what the terms say of days, works and scores. */
final class WorkTests extends Promises {
    WorkTests(Check check) {
        super(check);
    }

    @Override
    void run() {
        newObject();
        anotherObject();
        days();
        quarters();
        minutes();
        isOwned();
        twelveWorks();
        setPartsOfAnInstrument();
        partsInAll();
        setPartsOfNoWork();
        moreThanTenParts();
        setPartsInService();
        setSolo();
        setSoloRefused();
        hireCosts();
        hireRange();
        hireOwned();
        hireSixTimes();
        scoreIsThere();
        scoreOfManyWeeks();
        scoreAtTheEndsOfTheYear();
        scoreHiredTwice();
        isScoreThereRefused();
    }

    // ---- 1 ----

    private void newObject() {
        says(1, "Creates a wall without works, players and services.");
        due("no work", () -> book.isScoreThere(0, 0), INDEX);
        due("no player", () -> book.services(0), INDEX);
        due("no hall", () -> book.give(0, 0, true), INDEX);
        due("no service", () -> book.isBooked(0), INDEX);
        due("no guest", () -> book.elsewhere(0, 0), INDEX);
        due("total", () -> book.total(), 0);
        due("checksum", () -> book.checksum(), 7L * 31);
        due("bookedShare", () -> book.bookedShare(), ARITHMETIC);
        due("meanServices", () -> book.meanServices(), ARITHMETIC);
        due("isSound", () -> book.isSound(), true);
    }

    private void anotherObject() {
        says(1, "Creates a wall");
        two();
        book.book(0);
        Seasonbook other = new Seasonbook();
        due("of its own, without works", () -> other.addWork(5, true), 0);
        due("players", () -> other.addPlayer(1, 0, 5), 0);
        due("halls", () -> other.addHall(0, 4), 0);
        due("guests", () -> other.addGuest(0, 0), 0);
        due("and services", () -> other.addService('r', 5, 0, 4, 0), 0);
        due("the first one stays as it was", () -> book.castAt(0, 0, 0), 0);
    }

    // ---- days ----

    private void days() {
        terms("Days.", "Days are from 0 to 399;");
        book.addWork(10, false);
        players(10);
        halls(1);
        book.addGuest(1, 1);
        range("hire on day", 0, 399, day -> book.hire(0, day, 1, 1));
        range("isScoreThere on day", 0, 399, day -> book.isScoreThere(0, day));
        range("leave on day", 0, 399, day -> book.leave(0, day, day));
        range("leave up to day", 0, 399, day -> book.leave(0, 0, day));
        range("give on day", 0, 399, day -> book.give(0, day, false));
        range("addService on day", 0, 399, day -> book.addService('r', day, 40, 4, 0));
        range("elsewhere on day", 0, 399, day -> book.elsewhere(0, day));
    }

    private void quarters() {
        terms("an hour has 4 quarters, and a day the quarters 0 to 95.");
        halls(1);
        due("from quarter 0 on", () -> book.addService('r', 0, 0, 4, 0), 0);
        due("up to quarter 95", () -> book.addService('r', 0, 92, 4, 0), 1);
        due("from quarter -1 on", () -> book.addService('r', 1, -1, 4, 0), ARGUMENT);
        due("from quarter 93 on into the next day", () -> book.addService('r', 1, 93, 4, 0), UNSUPPORTED);
        due("from quarter 95 on into the next day", () -> book.addService('r', 1, 95, 4, 0), UNSUPPORTED);
        due("from quarter 96 on", () -> book.addService('r', 1, 96, 4, 0), ARGUMENT);
        work(60);
        work(61);
        due("61 minutes are longer than 4 quarters", () -> book.add(0, 1), UNSUPPORTED);
        due("60 minutes are not", () -> book.add(0, 0), 1);
    }

    // ---- 2 ----

    private void minutes() {
        says(2, "Adds a work without parts.", "minutes: the minutes",
                "Throws IllegalArgumentException if a number is out of range");
        alsoTerms("each of 1 to 90 minutes,");
        range("minutes", 1, 90, minutes -> book.addWork(minutes, true));
        due("0 minutes", () -> book.addWork(0, false), ARGUMENT);
        due("none of these was added", () -> book.addWork(45, true), 2);
        due("without parts", () -> book.setParts(2, 0, 0), 0);
        halls(1);
        service('r', 5, 40, 6, 0, 1);
        due("90 minutes and no more", () -> book.add(0, 0), UNSUPPORTED);
        service('r', 6, 40, 4, 0, 2);
        due("45 minutes and 1", () -> book.add(1, 0), 2);
        due("a cast of nobody for the parts that it has not", () -> book.book(1), 0);
        due("so it stands", () -> book.stands(1, 2), true);
    }

    private void isOwned() {
        says(2, "isOwned: whether its score is owned, otherwise it is hired");
        alsoTerms("A score is owned, or hired by weeks");
        book.addWork(10, true);
        book.addWork(10, false);
        due("an owned score is there at first", () -> book.isScoreThere(0, 0), true);
        due("and at last", () -> book.isScoreThere(0, 399), true);
        due("it is not hired", () -> book.hire(0, 0, 1, 1), UNSUPPORTED);
        due("another one is not there at first", () -> book.isScoreThere(1, 0), false);
        due("nor at last", () -> book.isScoreThere(1, 399), false);
        due("it is hired", () -> book.hire(1, 0, 1, 1), 1);
    }

    private void twelveWorks() {
        says(2, "Returns its number.", "Throws IllegalStateException if there are 12");
        alsoTerms("Works. At most 12 are numbered from 0,");
        for (int number = 0; number < 12; number++) {
            int due = number;
            due("work " + number, () -> book.addWork(10, due % 2 == 0), due);
        }
        due("a thirteenth", () -> book.addWork(10, true), STATE);
        due("a thirteenth that is hired", () -> book.addWork(90, false), STATE);
        numbered("isScoreThere of work", 12, work -> book.isScoreThere(work, 0));
        due("the twelfth as it was added", () -> book.isScoreThere(11, 0), false);
        due("the eleventh", () -> book.isScoreThere(10, 0), true);
    }

    // ---- 3 ----

    private void setPartsOfAnInstrument() {
        says(3, "Sets the parts of a work for an instrument.", "instrument: 0 to 5", "many: 0 to 4",
                "Throws IllegalArgumentException if a number is out of range");
        alsoTerms("with parts for the instruments 0 to 5, 0 to 4 for each,");
        work(30);
        range("instrument", 0, 5, instrument -> book.setParts(0, instrument, 1));
        range("many", 0, 4, many -> book.setParts(0, 3, many));
        due("1 for 0, 4 for 3, 1 for 5", () -> book.setParts(0, 1, 0), 6);
        due("both out of range", () -> book.setParts(0, 6, 5), ARGUMENT);
    }

    private void partsInAll() {
        says(3, "Returns how many parts it has in all.");
        work(30);
        work(30);
        due("none", () -> book.setParts(0, 0, 0), 0);
        due("3", () -> book.setParts(0, 0, 3), 3);
        due("and 2", () -> book.setParts(0, 5, 2), 5);
        due("1 instead of 3", () -> book.setParts(0, 0, 1), 3);
        due("as it is", () -> book.setParts(0, 0, 1), 3);
        due("none instead of 2", () -> book.setParts(0, 5, 0), 1);
        due("another work has its own", () -> book.setParts(1, 5, 1), 1);
    }

    private void setPartsOfNoWork() {
        says(3, "work: the work", "Throws IndexOutOfBoundsException if there is no such work");
        due("the first of none", () -> book.setParts(0, 0, 1), INDEX);
        work(30);
        work(30);
        numbered("work", 2, work -> book.setParts(work, 0, 1));
    }

    private void moreThanTenParts() {
        says(3, "Throws UnsupportedOperationException", "or would have more than 10");
        alsoTerms("at most 10 in all;");
        work(30, 4, 4);
        due("an eleventh at once", () -> book.setParts(0, 2, 3), UNSUPPORTED);
        due("a tenth", () -> book.setParts(0, 2, 2), 10);
        due("an eleventh of another instrument", () -> book.setParts(0, 5, 1), UNSUPPORTED);
        due("an eleventh of the same", () -> book.setParts(0, 2, 3), UNSUPPORTED);
        due("ten as they are", () -> book.setParts(0, 0, 4), 10);
        due("one less", () -> book.setParts(0, 0, 3), 9);
        due("two more", () -> book.setParts(0, 5, 2), UNSUPPORTED);
        due("one more", () -> book.setParts(0, 5, 1), 10);
    }

    private void setPartsInService() {
        says(3, "Throws UnsupportedOperationException if it is in a service,");
        two();
        due("in two services", () -> book.setParts(0, 0, 2), UNSUPPORTED);
        due("in two services, as it is", () -> book.setParts(0, 0, 1), UNSUPPORTED);
        book.remove(1, 0);
        due("in one that is not booked", () -> book.setParts(0, 1, 0), UNSUPPORTED);
        book.book(0);
        due("in one that is booked", () -> book.setParts(0, 0, 2), UNSUPPORTED);
        book.unbook(0);
        book.remove(0, 0);
        due("in none any more", () -> book.setParts(0, 0, 2), 2);
        due("the other one is still in one", () -> book.setParts(1, 0, 2), UNSUPPORTED);
        work(10);
        due("in none yet", () -> book.setParts(2, 0, 4), 4);
    }

    // ---- 4 ----

    private void setSolo() {
        says(4, "Tells whether a work needs a soloist.", "is: whether it does", "Returns whether it did.");
        alsoTerms("it can need a soloist.");
        work(30);
        work(30);
        due("not at first", () -> book.setSolo(0, false), false);
        due("not before", () -> book.setSolo(0, true), false);
        due("before", () -> book.setSolo(0, true), true);
        due("no more", () -> book.setSolo(0, false), true);
        due("not now", () -> book.setSolo(0, true), false);
        due("the other one not", () -> book.setSolo(1, false), false);
        halls(1);
        concert(5, 0, 1);
        book.book(0);
        due("it is left out without a soloist", () -> book.stands(0, 0), false);
        due("the other one stands", () -> book.stands(0, 1), true);
    }

    private void setSoloRefused() {
        says(4, "work: the work", "Throws IndexOutOfBoundsException if there is no such work",
                "Throws UnsupportedOperationException if it is in a service");
        due("the first of none", () -> book.setSolo(0, true), INDEX);
        two();
        due("in two services", () -> book.setSolo(0, true), UNSUPPORTED);
        due("in two services, as it is", () -> book.setSolo(1, true), UNSUPPORTED);
        book.remove(1, 0);
        due("in one", () -> book.setSolo(0, true), UNSUPPORTED);
        book.remove(0, 0);
        due("in none any more", () -> book.setSolo(0, true), false);
        work(10);
        numbered("work", 3, work -> book.setSolo(work, true));
    }

    // ---- 5 ----

    private void hireCosts() {
        says(5, "Hires a score.", "Returns the cost.");
        alsoTerms("for a price, 1 to 999, for each week;");
        book.addWork(10, false);
        due("a week", () -> book.hire(0, 0, 1, 7), 7);
        due("three weeks", () -> book.hire(0, 50, 3, 30), 90);
        due("the most", () -> book.hire(0, 399, 20, 999), 19980);
        due("all is paid", () -> book.total(), 7 + 90 + 19980);
    }

    private void hireRange() {
        says(5, "day: the first day", "weeks: 1 to 20", "price: 1 to 999",
                "Throws IllegalArgumentException if a number is out of range", "work: the work",
                "Throws IndexOutOfBoundsException if there is no such work");
        due("the first of none", () -> book.hire(0, 0, 1, 1), INDEX);
        book.addWork(10, false);
        range("weeks", 1, 20, weeks -> book.hire(0, 100, weeks, 1));
        range("price", 1, 999, price -> book.hire(0, 200, 1, price));
        range("day", 0, 399, day -> book.hire(0, day, 1, 1));
        due("six were taken", () -> book.hire(0, 0, 1, 1), STATE);
        due("the others cost nothing", () -> book.total(), 21 + 1000 + 2);
        book.addWork(10, false);
        numbered("work", 2, work -> book.hire(work, 0, 1, 1));
    }

    private void hireOwned() {
        says(5, "Throws UnsupportedOperationException if it is owned");
        book.addWork(10, true);
        book.addWork(10, false);
        due("owned", () -> book.hire(0, 0, 1, 1), UNSUPPORTED);
        due("owned, the most", () -> book.hire(0, 399, 20, 999), UNSUPPORTED);
        due("nothing is paid", () -> book.total(), 0);
        due("hired", () -> book.hire(1, 0, 1, 1), 1);
    }

    private void hireSixTimes() {
        says(5, "Throws IllegalStateException if it was hired 6 times");
        book.addWork(10, false);
        book.addWork(10, false);
        for (int time = 1; time <= 6; time++) {
            int day = 20 * time;
            due("time " + time, () -> book.hire(0, day, 2, 30), 60);
        }
        due("a seventh time", () -> book.hire(0, 300, 2, 30), STATE);
        due("the same once more", () -> book.hire(0, 20, 2, 30), STATE);
        due("the sixth is there", () -> book.isScoreThere(0, 120), true);
        due("a seventh is not", () -> book.isScoreThere(0, 300), false);
        due("six are paid", () -> book.total(), 360);
        due("another work", () -> book.hire(1, 300, 2, 30), 60);
    }

    // ---- 6 ----

    private void scoreIsThere() {
        says(6, "Returns whether a score is there on a day.", "Returns whether it is.");
        alsoTerms("then it is there from a day on,", "weeks of 7 days, that one counted.");
        book.addWork(10, false);
        book.addWork(10, false);
        book.hire(0, 20, 1, 5);
        due("the day ahead", () -> book.isScoreThere(0, 19), false);
        due("the first day", () -> book.isScoreThere(0, 20), true);
        due("the seventh day", () -> book.isScoreThere(0, 26), true);
        due("the eighth day", () -> book.isScoreThere(0, 27), false);
        due("another work's is not", () -> book.isScoreThere(1, 20), false);
        halls(1);
        work(10);
        for (int day : new int[] {19, 20, 26, 27}) {
            bookedConcert(day, 2, 0);
        }
        due("does not stand the day ahead", () -> book.stands(0, 0), false);
        due("stands the first day", () -> book.stands(1, 0), true);
        due("stands the seventh day", () -> book.stands(2, 0), true);
        due("does not stand the eighth day", () -> book.stands(3, 0), false);
    }

    private void scoreOfManyWeeks() {
        terms("for 1 to 20 weeks of 7 days, that one counted.");
        book.addWork(10, false);
        book.hire(0, 100, 20, 1);
        due("the day ahead", () -> book.isScoreThere(0, 99), false);
        due("day 1", () -> book.isScoreThere(0, 100), true);
        due("day 140", () -> book.isScoreThere(0, 239), true);
        due("day 141", () -> book.isScoreThere(0, 240), false);
        book.hire(0, 300, 2, 1);
        due("day 14", () -> book.isScoreThere(0, 313), true);
        due("day 15", () -> book.isScoreThere(0, 314), false);
    }

    private void scoreAtTheEndsOfTheYear() {
        terms("then it is there from a day on, for 1 to 20 weeks");
        book.addWork(10, false);
        book.addWork(10, false);
        book.hire(0, 0, 1, 1);
        book.hire(0, 399, 20, 1);
        book.hire(1, 393, 1, 1);
        due("the first day of all", () -> book.isScoreThere(0, 0), true);
        due("day 6", () -> book.isScoreThere(0, 6), true);
        due("day 7", () -> book.isScoreThere(0, 7), false);
        due("day 398", () -> book.isScoreThere(0, 398), false);
        due("the last day of all", () -> book.isScoreThere(0, 399), true);
        due("the last day ahead of a last week", () -> book.isScoreThere(1, 392), false);
        due("the last day of a last week", () -> book.isScoreThere(1, 399), true);
        due("a year does not begin anew", () -> book.isScoreThere(1, 0), false);
    }

    private void scoreHiredTwice() {
        terms("hired by weeks for a price,", "then it is there");
        book.addWork(10, false);
        book.hire(0, 30, 1, 1);
        book.hire(0, 20, 1, 1);
        book.hire(0, 34, 1, 1);
        due("the second time", () -> book.isScoreThere(0, 26), true);
        due("between two times", () -> book.isScoreThere(0, 29), false);
        due("the first time", () -> book.isScoreThere(0, 30), true);
        due("both times", () -> book.isScoreThere(0, 36), true);
        due("only the third time", () -> book.isScoreThere(0, 40), true);
        due("behind all", () -> book.isScoreThere(0, 41), false);
    }

    private void isScoreThereRefused() {
        says(6, "work: the work", "day: the day", "Throws IndexOutOfBoundsException if there is no such work",
                "Throws IllegalArgumentException if a number is out of range");
        due("the first of none", () -> book.isScoreThere(0, 0), INDEX);
        book.addWork(10, true);
        book.addWork(10, false);
        range("day of an owned one", 0, 399, day -> book.isScoreThere(0, day));
        range("day of a hired one", 0, 399, day -> book.isScoreThere(1, day));
        numbered("work", 2, work -> book.isScoreThere(work, 0));
    }
}
