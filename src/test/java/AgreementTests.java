/** Promises 28 and 29, and what the terms say of the agreement: who is free, and for how many services booked. */
final class AgreementTests extends Promises {
    AgreementTests(Check check) {
        super(check);
    }

    @Override
    void run() {
        freeIfNotOnLeave();
        freeAsIfNotBooked();
        freeBesideWhatIsBooked();
        freeAsLongAsPlanned();
        twoADay();
        twoADayAtItsEnds();
        quartersBetween();
        quartersBetweenOverlapping();
        overNight();
        overNightAtMidnight();
        overNightOfTwoADay();
        overNightAtTheEndsOfTheYear();
        overTwoNights();
        eightInSevenDays();
        eightInSevenDaysAround();
        eightInTheFirstWeek();
        eightInTheLastWeek();
        notFreeIsNotCast();
        isFreeOfNone();
        services();
        servicesOfNone();
    }

    /** Four halls, one player, and a work that takes that player. */
    private void one() {
        halls(4);
        players(10);
        work(10, 1);
    }

    private int asked(int day, int start, int length, int hall) {
        return service('s', day, start, length, hall, 0);
    }

    private void dueFree(String what, int service, boolean due) {
        due(what, () -> book.isFree(0, service), due);
    }

    // ---- who is free ----

    private void freeIfNotOnLeave() {
        says(28, "Returns whether a player is free for a service that is not booked,", "Returns whether so.");
        alsoTerms("The agreement. A player is free for a service if not on leave on its day,");
        one();
        dueFree("nothing is told", asked(10, 40, 4, 0), true);
        book.leave(0, 20, 20);
        dueFree("on leave on its day", asked(20, 40, 4, 0), false);
        dueFree("on leave on the day ahead", asked(21, 40, 4, 0), true);
        dueFree("on leave on the day behind", asked(19, 40, 4, 0), true);
    }

    private void freeAsIfNotBooked() {
        says(28, "or would be if it were not.");
        one();
        booked('s', 10, 40, 4, 0, 0);
        dueFree("the only one", 0, true);
        booked('s', 10, 60, 4, 0, 0);
        dueFree("one of two a day", 0, true);
        dueFree("the other one", 1, true);
        for (int day = 11; day < 14; day++) {
            booked('s', day, 40, 4, 0, 0);
            booked('s', day, 60, 4, 0, 0);
        }
        dueFree("one of eight in a week", 7, true);
        due("all are booked", () -> book.services(0), 8);
        book.away(0, 0);
        dueFree("away, and so with seven others", 0, true);
        booked('s', 14, 40, 4, 0, 0);
        dueFree("away, and so with eight others", 0, false);
    }

    private void freeBesideWhatIsBooked() {
        terms("and if, with the services for which the player is booked,");
        one();
        players(20);
        asked(10, 40, 4, 0);
        int same = asked(10, 40, 4, 1);
        dueFree("the other one is not booked", same, true);
        book.book(0);
        dueFree("the other one is booked", same, false);
        due("another player is not", () -> book.isFree(1, same), true);
        book.away(0, 0);
        dueFree("booked, but cast with another one", same, true);
        due("who is not free then", () -> book.isFree(1, same), false);
        book.unbook(0);
        due("and is free again", () -> book.isFree(1, same), true);
    }

    private void freeAsLongAsPlanned() {
        terms("each as long as it was planned, these all keep the agreement:");
        one();
        booked('s', 10, 40, 8, 0, 0);
        int behind = asked(10, 52, 4, 0);
        int near = asked(10, 49, 4, 1);
        int night = asked(11, 0, 4, 0);
        book.ran(0, 32);
        dueFree("it ran into the next one", behind, true);
        dueFree("and into the night", night, true);
        book.ran(0, 4);
        dueFree("it ran for less than was planned", near, false);
    }

    // ---- at most two a day, 2 quarters ----

    private void twoADay() {
        terms("at most two a day,");
        one();
        booked('s', 10, 40, 4, 0, 0);
        dueFree("a second one", asked(10, 60, 4, 0), true);
        book.book(1);
        dueFree("a third one behind", asked(10, 80, 4, 0), false);
        dueFree("a third one ahead", asked(10, 20, 4, 0), false);
        dueFree("a third one between", asked(10, 50, 4, 0), false);
        dueFree("one on the next day", asked(11, 60, 4, 0), true);
        dueFree("one on the day ahead", asked(9, 60, 4, 0), true);
        book.unbook(0);
        dueFree("a second one between", 4, true);
    }

    private void twoADayAtItsEnds() {
        terms("at most two a day,");
        one();
        booked('s', 0, 0, 4, 0, 0);
        booked('s', 0, 92, 4, 0, 0);
        dueFree("a third one on day 0", asked(0, 46, 4, 0), false);
        booked('s', 399, 0, 4, 0, 0);
        booked('s', 399, 92, 4, 0, 0);
        due("two a day on the first and on the last day", () -> book.services(0), 4);
        dueFree("a third one on day 399", asked(399, 46, 4, 0), false);
    }

    private void quartersBetween() {
        terms("with 2 quarters between them at least;");
        one();
        booked('s', 10, 40, 8, 0, 0);
        dueFree("2 quarters behind it", asked(10, 50, 4, 1), true);
        dueFree("1 quarter behind it", asked(10, 49, 4, 2), false);
        dueFree("none behind it", asked(10, 48, 4, 3), false);
        dueFree("2 quarters ahead of it", asked(10, 34, 4, 1), true);
        dueFree("1 quarter ahead of it", asked(10, 35, 4, 2), false);
        dueFree("none ahead of it", asked(10, 36, 4, 3), false);
    }

    private void quartersBetweenOverlapping() {
        terms("with 2 quarters between them at least;");
        one();
        booked('s', 10, 40, 8, 0, 0);
        dueFree("at the same time", asked(10, 40, 8, 1), false);
        dueFree("around it", asked(10, 36, 16, 2), false);
        dueFree("within it", asked(10, 42, 4, 3), false);
        booked('s', 30, 40, 8, 0, 0);
        dueFree("over its end", asked(30, 46, 4, 1), false);
        dueFree("over its beginning", asked(30, 38, 4, 2), false);
        booked('s', 20, 92, 4, 0, 0);
        dueFree("2 quarters ahead of the last ones of a day", asked(20, 74, 16, 1), true);
        dueFree("1 quarter ahead of them", asked(20, 75, 16, 2), false);
    }

    // ---- 44 quarters over night ----

    private void overNight() {
        terms("44 quarters at least from the end of the last one of a day to the beginning of the first one of the "
                + "next day;");
        one();
        booked('s', 10, 80, 12, 0, 0);
        dueFree("44 quarters behind it", asked(11, 40, 4, 0), true);
        dueFree("43 quarters behind it", asked(11, 39, 4, 1), false);
        booked('s', 20, 20, 4, 0, 0);
        dueFree("44 quarters ahead of it", asked(19, 66, 6, 0), true);
        dueFree("43 quarters ahead of it", asked(19, 66, 7, 1), false);
    }

    private void overNightAtMidnight() {
        terms("44 quarters at least from the end of the last one of a day");
        one();
        booked('s', 10, 92, 4, 0, 0);
        dueFree("44 quarters behind midnight", asked(11, 44, 4, 0), true);
        dueFree("43 quarters behind midnight", asked(11, 43, 4, 1), false);
        booked('s', 20, 0, 4, 0, 0);
        dueFree("44 quarters ahead of midnight", asked(19, 48, 4, 0), true);
        dueFree("43 quarters ahead of midnight", asked(19, 48, 5, 1), false);
    }

    private void overNightOfTwoADay() {
        terms("from the end of the last one of a day to the beginning of the first one of the next day;");
        one();
        booked('s', 10, 90, 6, 0, 0);
        booked('s', 10, 20, 4, 1, 0);
        dueFree("43 quarters behind the last one, told first", asked(11, 43, 4, 1), false);
        dueFree("44 quarters behind it", asked(11, 44, 4, 0), true);
        booked('s', 30, 60, 4, 0, 0);
        booked('s', 30, 10, 4, 0, 0);
        dueFree("43 quarters ahead of the first one, told last", asked(29, 59, 4, 1), false);
        dueFree("44 quarters ahead of it", asked(29, 58, 4, 0), true);
        book.unbook(5);
        dueFree("far ahead of the other one", 6, true);
    }

    private void overNightAtTheEndsOfTheYear() {
        terms("to the beginning of the first one of the next day;");
        one();
        booked('s', 0, 92, 4, 0, 0);
        dueFree("43 quarters behind day 0", asked(1, 43, 4, 0), false);
        dueFree("44 quarters behind day 0", asked(1, 44, 4, 1), true);
        booked('s', 399, 0, 4, 0, 0);
        dueFree("43 quarters ahead of day 399", asked(398, 49, 4, 0), false);
        dueFree("44 quarters ahead of day 399", asked(398, 48, 4, 1), true);
        book.unbook(0);
        booked('s', 399, 80, 16, 1, 0);
        dueFree("day 0 does not come behind day 399", asked(0, 0, 4, 0), true);
    }

    private void overTwoNights() {
        terms("of the next day;");
        one();
        booked('s', 10, 80, 16, 0, 0);
        dueFree("a day between", asked(12, 0, 4, 0), true);
        dueFree("a day between ahead of it", asked(8, 92, 4, 0), true);
        dueFree("the same day has 2 quarters, no night", asked(10, 64, 14, 1), true);
    }

    // ---- at most 8 on any 7 days ----

    private void eightInSevenDays() {
        terms("at most 8 on any 7 days one behind the other.");
        one();
        for (int day = 100; day < 104; day++) {
            booked('s', day, 40, 4, 0, 0);
            booked('s', day, 60, 4, 0, 0);
        }
        due("eight are taken", () -> book.services(0), 8);
        dueFree("a ninth on the 7th day", asked(106, 40, 4, 0), false);
        dueFree("one on the 8th day", asked(107, 40, 4, 0), true);
        dueFree("a ninth 6 days ahead of the last one", asked(97, 40, 4, 0), false);
        dueFree("one 7 days ahead of the last one", asked(96, 40, 4, 0), true);
        dueFree("a ninth on the day behind them", asked(104, 40, 4, 0), false);
        dueFree("a ninth on the day ahead of them", asked(99, 40, 4, 0), false);
        book.unbook(3);
        dueFree("an eighth on the 7th day", 8, true);
        dueFree("the one that was taken back", 3, true);
        book.book(8);
        dueFree("now a ninth", 3, false);
        dueFree("an eighth from day 97 to 103", 10, true);
        booked('s', 50, 40, 4, 0, 0);
        booked('s', 150, 40, 4, 0, 0);
        dueFree("a ninth still, whatever is far ahead and behind", 3, false);
    }

    private void eightInSevenDaysAround() {
        terms("at most 8 on any 7 days one behind the other.");
        one();
        for (int day : new int[] {100, 101, 105, 106}) {
            booked('s', day, 40, 4, 0, 0);
            booked('s', day, 60, 4, 0, 0);
        }
        dueFree("a ninth between them", asked(103, 40, 4, 0), false);
        dueFree("a seventh from day 99 to 105", asked(99, 40, 4, 0), true);
        dueFree("a seventh from day 101 to 107", asked(107, 40, 4, 0), true);
        book.unbook(0);
        dueFree("an eighth between them", 8, true);
        book.book(8);
        due("eight again", () -> book.services(0), 8);
        dueFree("an eighth behind them, without day 100", 10, true);
        dueFree("a ninth on the first day", 0, false);
    }

    private void eightInTheFirstWeek() {
        terms("at most 8 on any 7 days");
        one();
        for (int day = 0; day < 4; day++) {
            booked('s', day, 40, 4, 0, 0);
            booked('s', day, 60, 4, 0, 0);
        }
        dueFree("a ninth on day 6", asked(6, 40, 4, 0), false);
        dueFree("a ninth on day 7", asked(7, 40, 4, 0), true);
        due("is booked", () -> book.book(9), 10);
        dueFree("another one on day 7", asked(7, 60, 4, 0), true);
    }

    private void eightInTheLastWeek() {
        terms("at most 8 on any 7 days");
        one();
        for (int day = 396; day < 400; day++) {
            booked('s', day, 40, 4, 0, 0);
            booked('s', day, 60, 4, 0, 0);
        }
        dueFree("a ninth on day 393", asked(393, 40, 4, 0), false);
        dueFree("a ninth on day 392", asked(392, 40, 4, 0), true);
        due("is booked", () -> book.book(9), 10);
        dueFree("day 0 is far ahead", asked(0, 40, 4, 0), true);
    }

    private void notFreeIsNotCast() {
        terms("these all keep the agreement:");
        one();
        booked('s', 10, 40, 4, 0, 0);
        asked(10, 45, 4, 1);
        due("1 quarter behind", () -> book.book(1), UNSUPPORTED);
        asked(10, 46, 8, 2);
        due("2 quarters behind", () -> book.book(2), 10);
        asked(10, 60, 4, 1);
        due("a third", () -> book.book(3), UNSUPPORTED);
        asked(11, 0, 4, 0);
        due("a short night", () -> book.book(4), UNSUPPORTED);
        due("all is sound", () -> book.isSound(), true);
        players(20);
        due("another player", () -> book.book(4), 20);
        due("is cast", () -> book.castAt(4, 0, 0), 1);
    }

    private void isFreeOfNone() {
        says(28, "player: the player", "service: the service",
                "Throws IndexOutOfBoundsException if there is no such player or service");
        due("the first of none", () -> book.isFree(0, 0), INDEX);
        players(10);
        due("a player, but no service", () -> book.isFree(0, 0), INDEX);
        Seasonbook other = new Seasonbook();
        other.addHall(0, 96);
        other.addService('r', 0, 0, 4, 0);
        due("a service, but no player", () -> other.isFree(0, 0), INDEX);
        book = new Seasonbook();
        two();
        numbered("player", 2, player -> book.isFree(player, 0));
        numbered("service", 2, service -> book.isFree(0, service));
    }

    // ---- 29 ----

    private void services() {
        says(29, "Returns for how many services a player is booked, being cast in them.", "Returns how many.");
        halls(1);
        players(10, 20);
        work(10, 1);
        work(10, 1);
        due("none", () -> book.services(0), 0);
        concert(1, 0, 1);
        due("not booked", () -> book.services(0), 0);
        book.book(0);
        due("booked, with two works", () -> book.services(0), 1);
        due("booked, but not cast", () -> book.services(1), 0);
        bookedRehearsal(5, 0);
        booked('s', 10, 40, 4, 0, 0);
        due("of each kind", () -> book.services(0), 3);
        book.away(1, 0);
        due("away from one", () -> book.services(0), 2);
        due("cast instead", () -> book.services(1), 1);
        book.away(1, 1);
        due("nobody is left", () -> book.services(1), 0);
        book.unbook(0);
        due("one is booked no more", () -> book.services(0), 1);
    }

    private void servicesOfNone() {
        says(29, "player: the player", "Throws IndexOutOfBoundsException if there is no such player");
        due("the first of none", () -> book.services(0), INDEX);
        two();
        numbered("player", 2, player -> book.services(player));
    }
}
