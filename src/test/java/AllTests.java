/** Runs every test of the project; ends with exit code 1 if an answer was not as is due. */
public final class AllTests {
    private AllTests() {
    }

    public static void main(String[] arguments) {
        Check check = new Check();
        new WorkTests(check).run();
        new PlayerTests(check).run();
        new AgreementTests(check).run();
        new HallAndServiceTests(check).run();
        new GuestTests(check).run();
        new BookingTests(check).run();
        new CastTests(check).run();
        new RehearsalAndOvertimeTests(check).run();
        new SumTests(check).run();
        new ExceptionTests(check).run();
        new FullWallTests(check).run();
        new SoundnessTests(check).run();
        new ModelTests(check).run();
        new FaceTests(check).run();
        new LanguageTests(check).run();
        new DocumentTests(check).run();
        System.out.println(check.passes() + " passed, " + check.failures() + " failed");
        if (check.failures() != 0) {
            System.exit(1);
        }
    }
}
