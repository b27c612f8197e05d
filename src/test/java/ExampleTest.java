import java.io.IOException;

/** The example of README.md: it stands there as it stands here, and answers what is told there. */
public final class ExampleTest {
    private static final Checks CHECKS = new Checks("ExampleTest");

    public static void main(String[] args) throws IOException {
        theExampleAnswersWhatItTells();
        theExampleStandsInTheReadme();
        theReadmeNamesEachCall();
        CHECKS.finish();
    }

    private static void theExampleAnswersWhatItTells() {
        // The example begins.
        HostKeyring book = new HostKeyring();

        // A line: key 42 belongs to the names 12xx at port 1, but not to 1299.
        int line = book.addLine(HostKeyring.PLAIN, 42);             // 0, the number of the line
        book.addPattern(line, 1200, 3, 1, false);                   // places 0 and 1 count 1 and 2
        book.addPattern(line, 1299, 15, 1, true);                   // all four places; denied
        int known = book.answer(1234, 1, 42, HostKeyring.NONE);     // TRUSTED
        int changed = book.judge(1234, 1, 45, HostKeyring.NONE);    // CHANGED: 42 and 45 are of one kind

        // A first sight waits until it is confirmed.
        int unknown = book.answer(5000, 0, 7, HostKeyring.NONE);    // NEW
        int asked = book.waiting();                                 // 7, the key
        int confirmed = book.confirm();                             // 1, the number of its line

        // A certificate, by an authority that goes for name 7000 at port 2.
        book.addHashed(HostKeyring.AUTHORITY, 60, 7000, 2, 11);
        int paper = book.certify(60, 8, 7000, 15, 500, 0, 365);     // 0, the number of the certificate
        int certified = book.answer(7000, 2, 8, paper);             // CERTIFIED
        int revoked = book.revokeSpan(60, 500, 599);                // 1 certificate
        int uncertified = book.judge(7000, 2, 8, paper);            // NEW

        // Key 42 is turned to key 43; both are trusted for 30 days.
        int turned = book.turn(1234, 1, 42, 43, 30);                // 1 line
        int old = book.judge(1234, 1, 42, HostKeyring.NONE);        // TRUSTED
        book.pass(30);
        int ended = book.judge(1234, 1, 42, HostKeyring.NONE);      // OTHER
        int cleaned = book.clean(365);                              // 1 line, the one that has ended
        // The example ends.
        CHECKS.same("line", line, 0);
        CHECKS.same("known", known, HostKeyring.TRUSTED);
        CHECKS.same("changed", changed, HostKeyring.CHANGED);
        CHECKS.same("unknown", unknown, HostKeyring.NEW);
        CHECKS.same("asked", asked, 7);
        CHECKS.same("confirmed", confirmed, 1);
        CHECKS.same("paper", paper, 0);
        CHECKS.same("certified", certified, HostKeyring.CERTIFIED);
        CHECKS.same("revoked", revoked, 1);
        CHECKS.same("uncertified", uncertified, HostKeyring.NEW);
        CHECKS.same("turned", turned, 1);
        CHECKS.same("old", old, HostKeyring.TRUSTED);
        CHECKS.same("ended", ended, HostKeyring.OTHER);
        CHECKS.same("cleaned", cleaned, 1);
        CHECKS.no("1299 is denied", book.matches(0, 1299, 1));
    }

    private static void theExampleStandsInTheReadme() throws IOException {
        String test = Project.test("ExampleTest");
        String begins = "// The example begins.\n";
        int begin = test.indexOf(begins) + begins.length();
        String example = test.substring(begin, test.indexOf("        // The example ends.")).replace("\n        ", "\n");
        CHECKS.yes("README.md has the example", Project.readme().contains("```java\n" + example.strip() + "\n```"));
    }

    private static void theReadmeNamesEachCall() throws IOException {
        String readme = Project.readme();
        for (java.lang.reflect.Method method : HostKeyring.class.getMethods()) {
            if (method.getDeclaringClass() == HostKeyring.class) {
                CHECKS.yes("README.md names " + method.getName(), readme.contains("`" + method.getName() + "("));
            }
        }
    }
}
