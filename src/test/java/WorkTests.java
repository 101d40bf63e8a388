/** Promises 1 to 6: a new object, works and their scores. */
final class WorkTests extends Promises {
    WorkTests(Check check) {
        super(check);
    }

    @Override
    void run() {
        newObject();
        addWork();
        setParts();
        setSolo();
        hire();
        isScoreThere();
    }

    private void newObject() {
        begin("1 a new object");
        due("no work", () -> book.isScoreThere(0, 0), INDEX);
        due("no player", () -> book.services(0), INDEX);
        due("no hall", () -> book.give(0, 0, true), INDEX);
        due("no service", () -> book.isBooked(0), INDEX);
        due("no guest", () -> book.elsewhere(0, 0), INDEX);
        due("total", () -> book.total(), 0);
        due("checksum", () -> book.checksum(), 7L * 31);
        due("isSound", () -> book.isSound(), true);
        Seasonbook first = book;
        first.addWork(5, true);
        due("another object is its own", () -> new Seasonbook().addWork(5, true), 0);
    }

    private void addWork() {
        begin("2 addWork");
        due("no minutes", () -> book.addWork(0, true), ARGUMENT);
        due("minutes below 0", () -> book.addWork(LEAST, true), ARGUMENT);
        due("91 minutes", () -> book.addWork(91, true), ARGUMENT);
        due("1 minute", () -> book.addWork(1, true), 0);
        due("90 minutes", () -> book.addWork(90, false), 1);
        due("an owned score is there", () -> book.isScoreThere(0, 0), true);
        due("another one is not", () -> book.isScoreThere(1, 0), false);
        for (int number = 2; number < 12; number++) {
            int due = number;
            due("work " + number, () -> book.addWork(10, true), due);
        }
        due("a thirteenth", () -> book.addWork(10, true), STATE);
        due("a thirteenth of no minutes", () -> book.addWork(0, true), ARGUMENT);
        due("still the twelve", () -> book.isScoreThere(12, 0), INDEX);
        due("no parts", () -> book.setParts(11, 0, 0), 0);
    }

    private void setParts() {
        begin("3 setParts");
        due("no such work", () -> book.setParts(0, -1, -1), INDEX);
        work(30);
        due("work -1", () -> book.setParts(-1, 0, 1), INDEX);
        due("instrument -1", () -> book.setParts(0, -1, 1), ARGUMENT);
        due("instrument 6", () -> book.setParts(0, 6, 1), ARGUMENT);
        due("-1 parts", () -> book.setParts(0, 0, -1), ARGUMENT);
        due("5 parts", () -> book.setParts(0, 0, 5), ARGUMENT);
        due("4 parts", () -> book.setParts(0, 0, 4), 4);
        due("4 more", () -> book.setParts(0, 5, 4), 8);
        due("3 more", () -> book.setParts(0, 2, 3), UNSUPPORTED);
        due("2 more", () -> book.setParts(0, 2, 2), 10);
        due("an eleventh", () -> book.setParts(0, 1, 1), UNSUPPORTED);
        due("set anew", () -> book.setParts(0, 0, 3), 9);
        due("now a tenth", () -> book.setParts(0, 1, 1), 10);
        due("set to none", () -> book.setParts(0, 0, 0), 7);
        inService();
    }

    private void inService() {
        book.addHall(0, 96);
        work(10);
        concert(3, 0);
        due("in a service", () -> book.setParts(0, 0, 1), UNSUPPORTED);
        due("in a service, out of range", () -> book.setParts(0, 0, 5), ARGUMENT);
        due("another work", () -> book.setParts(1, 0, 1), 1);
        due("solo in a service", () -> book.setSolo(0, true), UNSUPPORTED);
        book.remove(0, 0);
        due("in none any more", () -> book.setParts(0, 0, 1), 8);
    }

    private void setSolo() {
        begin("4 setSolo");
        due("no such work", () -> book.setSolo(0, true), INDEX);
        work(30);
        due("work -1", () -> book.setSolo(-1, true), INDEX);
        due("not before", () -> book.setSolo(0, true), false);
        due("before", () -> book.setSolo(0, true), true);
        due("no more", () -> book.setSolo(0, false), true);
        due("not", () -> book.setSolo(0, false), false);
        book.addHall(0, 96);
        concert(3, 0);
        due("in a service", () -> book.setSolo(0, true), UNSUPPORTED);
        due("in a service, as it is", () -> book.setSolo(0, false), UNSUPPORTED);
        book.remove(0, 0);
        due("in none any more", () -> book.setSolo(0, true), false);
    }

    private void hire() {
        begin("5 hire");
        due("no such work", () -> book.hire(0, -1, 0, 0), INDEX);
        book.addWork(10, false);
        book.addWork(10, true);
        due("work -1", () -> book.hire(-1, 0, 1, 1), INDEX);
        due("day -1", () -> book.hire(0, -1, 1, 1), ARGUMENT);
        due("day 400", () -> book.hire(0, 400, 1, 1), ARGUMENT);
        due("0 weeks", () -> book.hire(0, 0, 0, 1), ARGUMENT);
        due("21 weeks", () -> book.hire(0, 0, 21, 1), ARGUMENT);
        due("price 0", () -> book.hire(0, 0, 1, 0), ARGUMENT);
        due("price 1000", () -> book.hire(0, 0, 1, 1000), ARGUMENT);
        due("an owned one out of range", () -> book.hire(1, 0, 1, 1000), ARGUMENT);
        due("an owned one", () -> book.hire(1, 0, 1, 1), UNSUPPORTED);
        due("20 weeks", () -> book.hire(0, 399, 20, 999), 19980);
        due("1 week", () -> book.hire(0, 0, 1, 1), 1);
        for (int time = 0; time < 4; time++) {
            due("again", () -> book.hire(0, 10, 2, 30), 60);
        }
        due("a seventh time", () -> book.hire(0, 10, 2, 30), STATE);
        due("a seventh time out of range", () -> book.hire(0, 10, 2, 0), ARGUMENT);
        due("total", () -> book.total(), 19980 + 1 + 240);
    }

    private void isScoreThere() {
        begin("6 isScoreThere");
        due("no such work", () -> book.isScoreThere(0, -1), INDEX);
        book.addWork(10, false);
        book.addWork(10, true);
        due("work 2", () -> book.isScoreThere(2, 0), INDEX);
        due("day -1", () -> book.isScoreThere(1, -1), ARGUMENT);
        due("day 400", () -> book.isScoreThere(1, 400), ARGUMENT);
        due("owned", () -> book.isScoreThere(1, 399), true);
        book.hire(0, 20, 1, 5);
        book.hire(0, 30, 2, 5);
        book.hire(0, 399, 20, 5);
        due("the day ahead", () -> book.isScoreThere(0, 19), false);
        due("the first day", () -> book.isScoreThere(0, 20), true);
        due("the last day", () -> book.isScoreThere(0, 26), true);
        due("the day behind", () -> book.isScoreThere(0, 27), false);
        due("two weeks", () -> book.isScoreThere(0, 43), true);
        due("two weeks and a day", () -> book.isScoreThere(0, 44), false);
        due("the last of all days", () -> book.isScoreThere(0, 399), true);
    }
}
